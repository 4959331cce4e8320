theorem dX7_period_40 : decode cX7_period 40 = .ok (.iconst 1, 1) := by decide +kernel
theorem dX7_period_41 : decode cX7_period 41 = .ok (.if_icmp .ne 15, 3) := by decide +kernel
theorem dX7_period_44 : decode cX7_period 44 = .ok (.aload_n 0, 1) := by decide +kernel
theorem dX7_period_45 : decode cX7_period 45 = .ok (.getfield 9, 3) := by decide +kernel
theorem dX7_period_48 : decode cX7_period 48 = .ok (.iload_n 1, 1) := by decide +kernel
theorem dX7_period_49 : decode cX7_period 49 = .ok (.laload, 1) := by decide +kernel
theorem dX7_period_50 : decode cX7_period 50 = .ok (.invokestatic 256, 3) := by decide +kernel
theorem dX7_period_53 : decode cX7_period 53 = .ok (.goto 13, 3) := by decide +kernel
theorem dX7_period_56 : decode cX7_period 56 = .ok (.aload_n 0, 1) := by decide +kernel
theorem dX7_period_57 : decode cX7_period 57 = .ok (.aload_n 0, 1) := by decide +kernel
theorem dX7_period_58 : decode cX7_period 58 = .ok (.getfield 9, 3) := by decide +kernel
theorem dX7_period_61 : decode cX7_period 61 = .ok (.iload_n 1, 1) := by decide +kernel
theorem dX7_period_62 : decode cX7_period 62 = .ok (.laload, 1) := by decide +kernel
theorem dX7_period_63 : decode cX7_period 63 = .ok (.invokevirtual 259, 3) := by decide +kernel
theorem dX7_period_66 : decode cX7_period 66 = .ok (.ireturn, 1) := by decide +kernel
theorem dX7_rollText_0 : decode cX7_rollText 0 = .ok (.aload_n 0, 1) := by decide +kernel
theorem dX7_rollText_1 : decode cX7_rollText 1 = .ok (.iload_n 1, 1) := by decide +kernel
theorem dX7_rollText_2 : decode cX7_rollText 2 = .ok (.invokevirtual 183, 3) := by decide +kernel
theorem dX7_rollText_5 : decode cX7_rollText 5 = .ok (.aload_n 0, 1) := by decide +kernel
theorem dX7_rollText_6 : decode cX7_rollText 6 = .ok (.getfield 16, 3) := by decide +kernel
theorem dX7_rollText_9 : decode cX7_rollText 9 = .ok (.iload_n 1, 1) := by decide +kernel
theorem dX7_rollText_10 : decode cX7_rollText 10 = .ok (.invokevirtual 186, 3) := by decide +kernel
theorem dX7_rollText_13 : decode cX7_rollText 13 = .ok (.invokestatic 230, 3) := by decide +kernel
theorem dX7_rollText_16 : decode cX7_rollText 16 = .ok (.areturn, 1) := by decide +kernel
theorem dX7_rowText_0 : decode cX7_rowText 0 = .ok (.aload_n 0, 1) := by decide +kernel
theorem dX7_rowText_1 : decode cX7_rowText 1 = .ok (.getfield 23, 3) := by decide +kernel
theorem dX7_rowText_4 : decode cX7_rowText 4 = .ok (.invokevirtual 262, 3) := by decide +kernel
theorem dX7_rowText_7 : decode cX7_rowText 7 = .ok (.areturn, 1) := by decide +kernel
theorem dX7_again_0 : decode cX7_again 0 = .ok (.aload_n 0, 1) := by decide +kernel
theorem dX7_again_1 : decode cX7_again 1 = .ok (.getfield 23, 3) := by decide +kernel
theorem dX7_again_4 : decode cX7_again 4 = .ok (.getfield 224, 3) := by decide +kernel
theorem dX7_again_7 : decode cX7_again 7 = .ok (.aload_n 0, 1) := by decide +kernel
theorem dX7_again_8 : decode cX7_again 8 = .ok (.getfield 23, 3) := by decide +kernel
theorem dX7_again_11 : decode cX7_again 11 = .ok (.getfield 218, 3) := by decide +kernel
theorem dX7_again_14 : decode cX7_again 14 = .ok (.invokestatic 266, 3) := by decide +kernel
theorem dX7_again_17 : decode cX7_again 17 = .ok (.ireturn, 1) := by decide +kernel
theorem dX7_house_0 : decode cX7_house 0 = .ok (.iload_n 1, 1) := by decide +kernel
theorem dX7_house_1 : decode cX7_house 1 = .ok (.iconst 0, 1) := by decide +kernel
theorem dX7_house_2 : decode cX7_house 2 = .ok (.iconst 5, 1) := by decide +kernel
theorem dX7_house_3 : decode cX7_house 3 = .ok (.invokestatic 62, 3) := by decide +kernel
theorem dX7_house_6 : decode cX7_house 6 = .ok (.iload_n 1, 1) := by decide +kernel
theorem dX7_house_7 : decode cX7_house 7 = .ok (.tableswitch 65 0 4 #[33, 38, 43, 48, 56], 33) := by decide +kernel
theorem dX7_house_40 : decode cX7_house 40 = .ok (.aload_n 0, 1) := by decide +kernel
theorem dX7_house_41 : decode cX7_house 41 = .ok (.getfield 47, 3) := by decide +kernel
theorem dX7_house_44 : decode cX7_house 44 = .ok (.ireturn, 1) := by decide +kernel
theorem dX7_house_45 : decode cX7_house 45 = .ok (.aload_n 0, 1) := by decide +kernel
theorem dX7_house_46 : decode cX7_house 46 = .ok (.getfield 51, 3) := by decide +kernel
theorem dX7_house_49 : decode cX7_house 49 = .ok (.ireturn, 1) := by decide +kernel
theorem dX7_house_50 : decode cX7_house 50 = .ok (.aload_n 0, 1) := by decide +kernel
theorem dX7_house_51 : decode cX7_house 51 = .ok (.getfield 54, 3) := by decide +kernel
theorem dX7_house_54 : decode cX7_house 54 = .ok (.ireturn, 1) := by decide +kernel
theorem dX7_house_55 : decode cX7_house 55 = .ok (.aload_n 0, 1) := by decide +kernel
theorem dX7_house_56 : decode cX7_house 56 = .ok (.getfield 16, 3) := by decide +kernel
theorem dX7_house_59 : decode cX7_house 59 = .ok (.getfield 176, 3) := by decide +kernel
theorem dX7_house_62 : decode cX7_house 62 = .ok (.ireturn, 1) := by decide +kernel
theorem dX7_house_63 : decode cX7_house 63 = .ok (.aload_n 0, 1) := by decide +kernel
theorem dX7_house_64 : decode cX7_house 64 = .ok (.getfield 23, 3) := by decide +kernel
theorem dX7_house_67 : decode cX7_house 67 = .ok (.getfield 218, 3) := by decide +kernel
theorem dX7_house_70 : decode cX7_house 70 = .ok (.l2i, 1) := by decide +kernel
theorem dX7_house_71 : decode cX7_house 71 = .ok (.ireturn, 1) := by decide +kernel
theorem dX7_house_72 : decode cX7_house 72 = .ok (.aload_n 0, 1) := by decide +kernel
theorem dX7_house_73 : decode cX7_house 73 = .ok (.invokevirtual 270, 3) := by decide +kernel
theorem dX7_house_76 : decode cX7_house 76 = .ok (.ireturn, 1) := by decide +kernel
theorem dX7_knock_0 : decode cX7_knock 0 = .ok (.aload_n 0, 1) := by decide +kernel
theorem dX7_knock_1 : decode cX7_knock 1 = .ok (.dup, 1) := by decide +kernel
theorem dX7_knock_2 : decode cX7_knock 2 = .ok (.getfield 54, 3) := by decide +kernel
theorem dX7_knock_5 : decode cX7_knock 5 = .ok (.iconst 1, 1) := by decide +kernel
theorem dX7_knock_6 : decode cX7_knock 6 = .ok (.iadd, 1) := by decide +kernel
theorem dX7_knock_7 : decode cX7_knock 7 = .ok (.putfield 54, 3) := by decide +kernel
theorem dX7_knock_10 : decode cX7_knock 10 = .ok (.aload_n 0, 1) := by decide +kernel
theorem dX7_knock_11 : decode cX7_knock 11 = .ok (.getfield 54, 3) := by decide +kernel
theorem dX7_knock_14 : decode cX7_knock 14 = .ok (.ireturn, 1) := by decide +kernel
theorem dX7_isSound_0 : decode cX7_isSound 0 = .ok (.aload_n 0, 1) := by decide +kernel
theorem dX7_isSound_1 : decode cX7_isSound 1 = .ok (.getfield 9, 3) := by decide +kernel
theorem dX7_isSound_4 : decode cX7_isSound 4 = .ok (.iconst 0, 1) := by decide +kernel
theorem dX7_isSound_5 : decode cX7_isSound 5 = .ok (.laload, 1) := by decide +kernel
theorem dX7_isSound_6 : decode cX7_isSound 6 = .ok (.ldc2_w 273, 3) := by decide +kernel
theorem dX7_isSound_9 : decode cX7_isSound 9 = .ok (.land, 1) := by decide +kernel
theorem dX7_isSound_10 : decode cX7_isSound 10 = .ok (.lstore_n 1, 1) := by decide +kernel
theorem dX7_isSound_11 : decode cX7_isSound 11 = .ok (.aload_n 0, 1) := by decide +kernel
theorem dX7_isSound_12 : decode cX7_isSound 12 = .ok (.getfield 9, 3) := by decide +kernel
theorem dX7_isSound_15 : decode cX7_isSound 15 = .ok (.iconst 1, 1) := by decide +kernel
theorem dX7_isSound_16 : decode cX7_isSound 16 = .ok (.laload, 1) := by decide +kernel
theorem dX7_isSound_17 : decode cX7_isSound 17 = .ok (.ldc2_w 273, 3) := by decide +kernel
theorem dX7_isSound_20 : decode cX7_isSound 20 = .ok (.land, 1) := by decide +kernel
theorem dX7_isSound_21 : decode cX7_isSound 21 = .ok (.lstore_n 3, 1) := by decide +kernel
theorem dX7_isSound_22 : decode cX7_isSound 22 = .ok (.aload_n 0, 1) := by decide +kernel
theorem dX7_isSound_23 : decode cX7_isSound 23 = .ok (.lload_n 1, 1) := by decide +kernel
theorem dX7_isSound_24 : decode cX7_isSound 24 = .ok (.lload_n 3, 1) := by decide +kernel
theorem dX7_isSound_25 : decode cX7_isSound 25 = .ok (.invokevirtual 275, 3) := by decide +kernel
theorem dX7_isSound_28 : decode cX7_isSound 28 = .ok (.ifCond .eq 25, 3) := by decide +kernel
theorem dX7_isSound_31 : decode cX7_isSound 31 = .ok (.aload_n 0, 1) := by decide +kernel
theorem dX7_isSound_32 : decode cX7_isSound 32 = .ok (.lload_n 1, 1) := by decide +kernel
theorem dX7_isSound_33 : decode cX7_isSound 33 = .ok (.lload_n 3, 1) := by decide +kernel
theorem dX7_isSound_34 : decode cX7_isSound 34 = .ok (.invokevirtual 278, 3) := by decide +kernel
theorem dX7_isSound_37 : decode cX7_isSound 37 = .ok (.ifCond .eq 16, 3) := by decide +kernel
theorem dX7_isSound_40 : decode cX7_isSound 40 = .ok (.aload_n 0, 1) := by decide +kernel
theorem dX7_isSound_41 : decode cX7_isSound 41 = .ok (.getfield 23, 3) := by decide +kernel
theorem dX7_isSound_44 : decode cX7_isSound 44 = .ok (.getfield 218, 3) := by decide +kernel
theorem dX7_isSound_47 : decode cX7_isSound 47 = .ok (.invokestatic 209, 3) := by decide +kernel
theorem dX7_isSound_50 : decode cX7_isSound 50 = .ok (.ifCond .ne 5, 3) := by decide +kernel
theorem dX7_isSound_53 : decode cX7_isSound 53 = .ok (.iconst 0, 1) := by decide +kernel
theorem dX7_isSound_54 : decode cX7_isSound 54 = .ok (.ireturn, 1) := by decide +kernel
theorem dX7_isSound_55 : decode cX7_isSound 55 = .ok (.lload_n 1, 1) := by decide +kernel
theorem dX7_isSound_56 : decode cX7_isSound 56 = .ok (.invokestatic 66, 3) := by decide +kernel
theorem dX7_isSound_59 : decode cX7_isSound 59 = .ok (.iconst 1, 1) := by decide +kernel
theorem dX7_isSound_60 : decode cX7_isSound 60 = .ok (.if_icmp .ge 5, 3) := by decide +kernel
theorem dX7_isSound_63 : decode cX7_isSound 63 = .ok (.iconst 1, 1) := by decide +kernel
theorem dX7_isSound_64 : decode cX7_isSound 64 = .ok (.ireturn, 1) := by decide +kernel
theorem dX7_isSound_65 : decode cX7_isSound 65 = .ok (.aload_n 0, 1) := by decide +kernel
theorem dX7_isSound_66 : decode cX7_isSound 66 = .ok (.getfield 37, 3) := by decide +kernel
theorem dX7_isSound_69 : decode cX7_isSound 69 = .ok (.lload_n 1, 1) := by decide +kernel
theorem dX7_isSound_70 : decode cX7_isSound 70 = .ok (.aload_n 0, 1) := by decide +kernel
theorem dX7_isSound_71 : decode cX7_isSound 71 = .ok (.getfield 41, 3) := by decide +kernel
theorem dX7_isSound_74 : decode cX7_isSound 74 = .ok (.invokevirtual 165, 3) := by decide +kernel
theorem dX7_isSound_77 : decode cX7_isSound 77 = .ok (.aload_n 0, 1) := by decide +kernel
theorem dX7_isSound_78 : decode cX7_isSound 78 = .ok (.getfield 37, 3) := by decide +kernel
theorem dX7_isSound_81 : decode cX7_isSound 81 = .ok (.lload_n 1, 1) := by decide +kernel
theorem dX7_isSound_82 : decode cX7_isSound 82 = .ok (.aload_n 0, 1) := by decide +kernel
theorem dX7_isSound_83 : decode cX7_isSound 83 = .ok (.getfield 44, 3) := by decide +kernel
theorem dX7_isSound_86 : decode cX7_isSound 86 = .ok (.invokevirtual 169, 3) := by decide +kernel
theorem dX7_isSound_89 : decode cX7_isSound 89 = .ok (.aload_n 0, 1) := by decide +kernel
theorem dX7_isSound_90 : decode cX7_isSound 90 = .ok (.getfield 44, 3) := by decide +kernel
theorem dX7_isSound_93 : decode cX7_isSound 93 = .ok (.iconst 0, 1) := by decide +kernel
theorem dX7_isSound_94 : decode cX7_isSound 94 = .ok (.invokevirtual 172, 3) := by decide +kernel
theorem dX7_isSound_97 : decode cX7_isSound 97 = .ok (.pop, 1) := by decide +kernel
theorem dX7_isSound_98 : decode cX7_isSound 98 = .ok (.aload_n 0, 1) := by decide +kernel
theorem dX7_isSound_99 : decode cX7_isSound 99 = .ok (.getfield 41, 3) := by decide +kernel
theorem dX7_isSound_102 : decode cX7_isSound 102 = .ok (.aload_n 0, 1) := by decide +kernel
theorem dX7_isSound_103 : decode cX7_isSound 103 = .ok (.getfield 44, 3) := by decide +kernel
theorem dX7_isSound_106 : decode cX7_isSound 106 = .ok (.invokevirtual 281, 3) := by decide +kernel
theorem dX7_isSound_109 : decode cX7_isSound 109 = .ok (.ifCond .eq 15, 3) := by decide +kernel
theorem dX7_isSound_112 : decode cX7_isSound 112 = .ok (.aload_n 0, 1) := by decide +kernel
theorem dX7_isSound_113 : decode cX7_isSound 113 = .ok (.getfield 41, 3) := by decide +kernel
theorem dX7_isSound_116 : decode cX7_isSound 116 = .ok (.invokevirtual 205, 3) := by decide +kernel
theorem dX7_isSound_119 : decode cX7_isSound 119 = .ok (.lload_n 1, 1) := by decide +kernel
theorem dX7_isSound_120 : decode cX7_isSound 120 = .ok (.lcmp, 1) := by decide +kernel
theorem dX7_isSound_121 : decode cX7_isSound 121 = .ok (.ifCond .eq 5, 3) := by decide +kernel
theorem dX7_isSound_124 : decode cX7_isSound 124 = .ok (.iconst 0, 1) := by decide +kernel
theorem dX7_isSound_125 : decode cX7_isSound 125 = .ok (.ireturn, 1) := by decide +kernel
theorem dX7_isSound_126 : decode cX7_isSound 126 = .ok (.lload_n 1, 1) := by decide +kernel
theorem dX7_isSound_127 : decode cX7_isSound 127 = .ok (.invokestatic 209, 3) := by decide +kernel
theorem dX7_isSound_130 : decode cX7_isSound 130 = .ok (.ifCond .eq 15, 3) := by decide +kernel
theorem dX7_isSound_133 : decode cX7_isSound 133 = .ok (.lload_n 1, 1) := by decide +kernel
theorem dX7_isSound_134 : decode cX7_isSound 134 = .ok (.invokestatic 253, 3) := by decide +kernel
theorem dX7_isSound_137 : decode cX7_isSound 137 = .ok (.aload_n 0, 1) := by decide +kernel
theorem dX7_isSound_138 : decode cX7_isSound 138 = .ok (.lload_n 1, 1) := by decide +kernel
theorem dX7_isSound_139 : decode cX7_isSound 139 = .ok (.invokevirtual 259, 3) := by decide +kernel
theorem dX7_isSound_142 : decode cX7_isSound 142 = .ok (.if_icmp .ne 7, 3) := by decide +kernel
theorem dX7_isSound_145 : decode cX7_isSound 145 = .ok (.iconst 1, 1) := by decide +kernel
theorem dX7_isSound_146 : decode cX7_isSound 146 = .ok (.goto 4, 3) := by decide +kernel
theorem dX7_isSound_149 : decode cX7_isSound 149 = .ok (.iconst 0, 1) := by decide +kernel
theorem dX7_isSound_150 : decode cX7_isSound 150 = .ok (.ireturn, 1) := by decide +kernel
theorem dX7_digest_0 : decode cX7_digest 0 = .ok (.ldc2_w 285, 3) := by decide +kernel
theorem dX7_digest_3 : decode cX7_digest 3 = .ok (.lstore_n 1, 1) := by decide +kernel
theorem dX7_digest_4 : decode cX7_digest 4 = .ok (.iconst 0, 1) := by decide +kernel
theorem dX7_digest_5 : decode cX7_digest 5 = .ok (.istore_n 3, 1) := by decide +kernel
theorem dX7_digest_6 : decode cX7_digest 6 = .ok (.iload_n 3, 1) := by decide +kernel
theorem dX7_digest_7 : decode cX7_digest 7 = .ok (.bipush 6, 2) := by decide +kernel
theorem dX7_digest_9 : decode cX7_digest 9 = .ok (.if_icmp .ge 20, 3) := by decide +kernel
theorem dX7_digest_12 : decode cX7_digest 12 = .ok (.lload_n 1, 1) := by decide +kernel
theorem dX7_digest_13 : decode cX7_digest 13 = .ok (.aload_n 0, 1) := by decide +kernel
theorem dX7_digest_14 : decode cX7_digest 14 = .ok (.getfield 9, 3) := by decide +kernel
theorem dX7_digest_17 : decode cX7_digest 17 = .ok (.iload_n 3, 1) := by decide +kernel
theorem dX7_digest_18 : decode cX7_digest 18 = .ok (.laload, 1) := by decide +kernel
theorem dX7_digest_19 : decode cX7_digest 19 = .ok (.invokestatic 287, 3) := by decide +kernel
theorem dX7_digest_22 : decode cX7_digest 22 = .ok (.lstore_n 1, 1) := by decide +kernel
theorem dX7_digest_23 : decode cX7_digest 23 = .ok (.iinc 3 1, 3) := by decide +kernel
theorem dX7_digest_26 : decode cX7_digest 26 = .ok (.goto (-20), 3) := by decide +kernel
theorem dX7_digest_29 : decode cX7_digest 29 = .ok (.lload_n 1, 1) := by decide +kernel
theorem dX7_digest_30 : decode cX7_digest 30 = .ok (.aload_n 0, 1) := by decide +kernel
theorem dX7_digest_31 : decode cX7_digest 31 = .ok (.getfield 16, 3) := by decide +kernel
theorem dX7_digest_34 : decode cX7_digest 34 = .ok (.getfield 176, 3) := by decide +kernel
theorem dX7_digest_37 : decode cX7_digest 37 = .ok (.i2l, 1) := by decide +kernel
theorem dX7_digest_38 : decode cX7_digest 38 = .ok (.invokestatic 290, 3) := by decide +kernel
theorem dX7_digest_41 : decode cX7_digest 41 = .ok (.lstore_n 1, 1) := by decide +kernel
theorem dX7_digest_42 : decode cX7_digest 42 = .ok (.iconst 0, 1) := by decide +kernel
theorem dX7_digest_43 : decode cX7_digest 43 = .ok (.istore_n 3, 1) := by decide +kernel
theorem dX7_digest_44 : decode cX7_digest 44 = .ok (.iload_n 3, 1) := by decide +kernel
theorem dX7_digest_45 : decode cX7_digest 45 = .ok (.aload_n 0, 1) := by decide +kernel
theorem dX7_digest_46 : decode cX7_digest 46 = .ok (.getfield 16, 3) := by decide +kernel
theorem dX7_digest_49 : decode cX7_digest 49 = .ok (.getfield 176, 3) := by decide +kernel
theorem dX7_digest_52 : decode cX7_digest 52 = .ok (.if_icmp .ge 43, 3) := by decide +kernel
theorem dX7_digest_55 : decode cX7_digest 55 = .ok (.lload_n 1, 1) := by decide +kernel
theorem dX7_digest_56 : decode cX7_digest 56 = .ok (.aload_n 0, 1) := by decide +kernel
theorem dX7_digest_57 : decode cX7_digest 57 = .ok (.getfield 16, 3) := by decide +kernel
theorem dX7_digest_60 : decode cX7_digest 60 = .ok (.iload_n 3, 1) := by decide +kernel
theorem dX7_digest_61 : decode cX7_digest 61 = .ok (.invokevirtual 186, 3) := by decide +kernel
theorem dX7_digest_64 : decode cX7_digest 64 = .ok (.invokestatic 66, 3) := by decide +kernel
theorem dX7_digest_67 : decode cX7_digest 67 = .ok (.i2l, 1) := by decide +kernel
theorem dX7_digest_68 : decode cX7_digest 68 = .ok (.invokestatic 290, 3) := by decide +kernel
theorem dX7_digest_71 : decode cX7_digest 71 = .ok (.lstore_n 1, 1) := by decide +kernel
theorem dX7_digest_72 : decode cX7_digest 72 = .ok (.lload_n 1, 1) := by decide +kernel
theorem dX7_digest_73 : decode cX7_digest 73 = .ok (.aload_n 0, 1) := by decide +kernel
theorem dX7_digest_74 : decode cX7_digest 74 = .ok (.getfield 16, 3) := by decide +kernel
theorem dX7_digest_77 : decode cX7_digest 77 = .ok (.iload_n 3, 1) := by decide +kernel
theorem dX7_digest_78 : decode cX7_digest 78 = .ok (.invokevirtual 186, 3) := by decide +kernel
theorem dX7_digest_81 : decode cX7_digest 81 = .ok (.invokestatic 83, 3) := by decide +kernel
theorem dX7_digest_84 : decode cX7_digest 84 = .ok (.i2l, 1) := by decide +kernel
theorem dX7_digest_85 : decode cX7_digest 85 = .ok (.invokestatic 290, 3) := by decide +kernel
theorem dX7_digest_88 : decode cX7_digest 88 = .ok (.lstore_n 1, 1) := by decide +kernel
theorem dX7_digest_89 : decode cX7_digest 89 = .ok (.iinc 3 1, 3) := by decide +kernel
theorem dX7_digest_92 : decode cX7_digest 92 = .ok (.goto (-48), 3) := by decide +kernel
theorem dX7_digest_95 : decode cX7_digest 95 = .ok (.lload_n 1, 1) := by decide +kernel
theorem dX7_digest_96 : decode cX7_digest 96 = .ok (.aload_n 0, 1) := by decide +kernel
theorem dX7_digest_97 : decode cX7_digest 97 = .ok (.getfield 23, 3) := by decide +kernel
theorem dX7_digest_100 : decode cX7_digest 100 = .ok (.getfield 218, 3) := by decide +kernel
theorem dX7_digest_103 : decode cX7_digest 103 = .ok (.invokestatic 290, 3) := by decide +kernel
theorem dX7_digest_106 : decode cX7_digest 106 = .ok (.lstore_n 1, 1) := by decide +kernel
theorem dX7_digest_107 : decode cX7_digest 107 = .ok (.aload_n 0, 1) := by decide +kernel
theorem dX7_digest_108 : decode cX7_digest 108 = .ok (.getfield 23, 3) := by decide +kernel
theorem dX7_digest_111 : decode cX7_digest 111 = .ok (.getfield 218, 3) := by decide +kernel
theorem dX7_digest_114 : decode cX7_digest 114 = .ok (.invokestatic 66, 3) := by decide +kernel
theorem dX7_digest_117 : decode cX7_digest 117 = .ok (.istore_n 3, 1) := by decide +kernel
theorem dX7_digest_118 : decode cX7_digest 118 = .ok (.iconst 0, 1) := by decide +kernel
theorem dX7_digest_119 : decode cX7_digest 119 = .ok (.istore 4, 2) := by decide +kernel
theorem dX7_digest_121 : decode cX7_digest 121 = .ok (.iload 4, 2) := by decide +kernel
theorem dX7_digest_123 : decode cX7_digest 123 = .ok (.iload_n 3, 1) := by decide +kernel
theorem dX7_digest_124 : decode cX7_digest 124 = .ok (.if_icmp .ge 34, 3) := by decide +kernel
theorem dX7_digest_127 : decode cX7_digest 127 = .ok (.lload_n 1, 1) := by decide +kernel
theorem dX7_digest_128 : decode cX7_digest 128 = .ok (.aload_n 0, 1) := by decide +kernel
theorem dX7_digest_129 : decode cX7_digest 129 = .ok (.getfield 23, 3) := by decide +kernel
theorem dX7_digest_132 : decode cX7_digest 132 = .ok (.getfield 224, 3) := by decide +kernel
theorem dX7_digest_135 : decode cX7_digest 135 = .ok (.iload 4, 2) := by decide +kernel
theorem dX7_digest_137 : decode cX7_digest 137 = .ok (.invokestatic 79, 3) := by decide +kernel
theorem dX7_digest_140 : decode cX7_digest 140 = .ok (.ifCond .eq 7, 3) := by decide +kernel
theorem dX7_digest_143 : decode cX7_digest 143 = .ok (.lconst 1, 1) := by decide +kernel
theorem dX7_digest_144 : decode cX7_digest 144 = .ok (.goto 4, 3) := by decide +kernel
theorem dX7_digest_147 : decode cX7_digest 147 = .ok (.lconst 0, 1) := by decide +kernel
theorem dX7_digest_148 : decode cX7_digest 148 = .ok (.invokestatic 290, 3) := by decide +kernel
theorem dX7_digest_151 : decode cX7_digest 151 = .ok (.lstore_n 1, 1) := by decide +kernel
theorem dX7_digest_152 : decode cX7_digest 152 = .ok (.iinc 4 1, 3) := by decide +kernel
theorem dX7_digest_155 : decode cX7_digest 155 = .ok (.goto (-34), 3) := by decide +kernel
theorem dX7_digest_158 : decode cX7_digest 158 = .ok (.iconst 0, 1) := by decide +kernel
theorem dX7_digest_159 : decode cX7_digest 159 = .ok (.istore 4, 2) := by decide +kernel
theorem dX7_digest_161 : decode cX7_digest 161 = .ok (.iload 4, 2) := by decide +kernel
theorem dX7_digest_163 : decode cX7_digest 163 = .ok (.iconst 5, 1) := by decide +kernel
theorem dX7_digest_164 : decode cX7_digest 164 = .ok (.if_icmp .gt 21, 3) := by decide +kernel
theorem dX7_digest_167 : decode cX7_digest 167 = .ok (.lload_n 1, 1) := by decide +kernel
theorem dX7_digest_168 : decode cX7_digest 168 = .ok (.aload_n 0, 1) := by decide +kernel
theorem dX7_digest_169 : decode cX7_digest 169 = .ok (.iload 4, 2) := by decide +kernel
theorem dX7_digest_171 : decode cX7_digest 171 = .ok (.invokevirtual 293, 3) := by decide +kernel
theorem dX7_digest_174 : decode cX7_digest 174 = .ok (.i2l, 1) := by decide +kernel
theorem dX7_digest_175 : decode cX7_digest 175 = .ok (.invokestatic 290, 3) := by decide +kernel
theorem dX7_digest_178 : decode cX7_digest 178 = .ok (.lstore_n 1, 1) := by decide +kernel
theorem dX7_digest_179 : decode cX7_digest 179 = .ok (.iinc 4 1, 3) := by decide +kernel
theorem dX7_digest_182 : decode cX7_digest 182 = .ok (.goto (-21), 3) := by decide +kernel
theorem dX7_digest_185 : decode cX7_digest 185 = .ok (.lload_n 1, 1) := by decide +kernel
theorem dX7_digest_186 : decode cX7_digest 186 = .ok (.aload_n 0, 1) := by decide +kernel
theorem dX7_digest_187 : decode cX7_digest 187 = .ok (.invokevirtual 296, 3) := by decide +kernel
theorem dX7_digest_190 : decode cX7_digest 190 = .ok (.ifCond .eq 7, 3) := by decide +kernel
theorem dX7_digest_193 : decode cX7_digest 193 = .ok (.lconst 1, 1) := by decide +kernel
theorem dX7_digest_194 : decode cX7_digest 194 = .ok (.goto 4, 3) := by decide +kernel
theorem dX7_digest_197 : decode cX7_digest 197 = .ok (.lconst 0, 1) := by decide +kernel
theorem dX7_digest_198 : decode cX7_digest 198 = .ok (.invokestatic 290, 3) := by decide +kernel
theorem dX7_digest_201 : decode cX7_digest 201 = .ok (.lreturn, 1) := by decide +kernel
theorem dX7_isBetween_0 : decode cX7_isBetween 0 = .ok (.iload_n 0, 1) := by decide +kernel
theorem dX7_isBetween_1 : decode cX7_isBetween 1 = .ok (.iload_n 1, 1) := by decide +kernel
theorem dX7_isBetween_2 : decode cX7_isBetween 2 = .ok (.if_icmp .lt 12, 3) := by decide +kernel
theorem dX7_isBetween_5 : decode cX7_isBetween 5 = .ok (.iload_n 0, 1) := by decide +kernel
theorem dX7_isBetween_6 : decode cX7_isBetween 6 = .ok (.iload_n 2, 1) := by decide +kernel
theorem dX7_isBetween_7 : decode cX7_isBetween 7 = .ok (.if_icmp .gt 7, 3) := by decide +kernel
theorem dX7_isBetween_10 : decode cX7_isBetween 10 = .ok (.iconst 1, 1) := by decide +kernel
theorem dX7_isBetween_11 : decode cX7_isBetween 11 = .ok (.goto 4, 3) := by decide +kernel
theorem dX7_isBetween_14 : decode cX7_isBetween 14 = .ok (.iconst 0, 1) := by decide +kernel
theorem dX7_isBetween_15 : decode cX7_isBetween 15 = .ok (.ireturn, 1) := by decide +kernel
theorem dX7_testForm_0 : decode cX7_testForm 0 = .ok (.iload_n 0, 1) := by decide +kernel
theorem dX7_testForm_1 : decode cX7_testForm 1 = .ok (.iconst 0, 1) := by decide +kernel
theorem dX7_testForm_2 : decode cX7_testForm 2 = .ok (.iconst 5, 1) := by decide +kernel
theorem dX7_testForm_3 : decode cX7_testForm 3 = .ok (.invokestatic 161, 3) := by decide +kernel
theorem dX7_testForm_6 : decode cX7_testForm 6 = .ok (.ifCond .ne 14, 3) := by decide +kernel
theorem dX7_testForm_9 : decode cX7_testForm 9 = .ok (.new 299, 3) := by decide +kernel
theorem dX7_testForm_12 : decode cX7_testForm 12 = .ok (.dup, 1) := by decide +kernel
theorem dX7_testForm_13 : decode cX7_testForm 13 = .ok (.ldc_w 301, 3) := by decide +kernel
theorem dX7_testForm_16 : decode cX7_testForm 16 = .ok (.invokespecial 303, 3) := by decide +kernel
theorem dX7_testForm_19 : decode cX7_testForm 19 = .ok (.athrow, 1) := by decide +kernel
theorem dX7_testForm_20 : decode cX7_testForm 20 = .ok (.return_, 1) := by decide +kernel
theorem dX7_testForms_0 : decode cX7_testForms 0 = .ok (.iload_n 0, 1) := by decide +kernel
theorem dX7_testForms_1 : decode cX7_testForms 1 = .ok (.invokestatic 57, 3) := by decide +kernel
theorem dX7_testForms_4 : decode cX7_testForms 4 = .ok (.iload_n 1, 1) := by decide +kernel
theorem dX7_testForms_5 : decode cX7_testForms 5 = .ok (.invokestatic 57, 3) := by decide +kernel
theorem dX7_testForms_8 : decode cX7_testForms 8 = .ok (.iload_n 2, 1) := by decide +kernel
theorem dX7_testForms_9 : decode cX7_testForms 9 = .ok (.invokestatic 57, 3) := by decide +kernel
theorem dX7_testForms_12 : decode cX7_testForms 12 = .ok (.return_, 1) := by decide +kernel
theorem dX7_testPlace_0 : decode cX7_testPlace 0 = .ok (.iload_n 0, 1) := by decide +kernel
theorem dX7_testPlace_1 : decode cX7_testPlace 1 = .ok (.iconst 0, 1) := by decide +kernel
theorem dX7_testPlace_2 : decode cX7_testPlace 2 = .ok (.bipush 39, 2) := by decide +kernel
theorem dX7_testPlace_4 : decode cX7_testPlace 4 = .ok (.invokestatic 161, 3) := by decide +kernel
theorem dX7_testPlace_7 : decode cX7_testPlace 7 = .ok (.ifCond .ne 14, 3) := by decide +kernel
theorem dX7_testPlace_10 : decode cX7_testPlace 10 = .ok (.new 299, 3) := by decide +kernel
theorem dX7_testPlace_13 : decode cX7_testPlace 13 = .ok (.dup, 1) := by decide +kernel
theorem dX7_testPlace_14 : decode cX7_testPlace 14 = .ok (.ldc_w 304, 3) := by decide +kernel
theorem dX7_testPlace_17 : decode cX7_testPlace 17 = .ok (.invokespecial 303, 3) := by decide +kernel
theorem dX7_testPlace_20 : decode cX7_testPlace 20 = .ok (.athrow, 1) := by decide +kernel
theorem dX7_testPlace_21 : decode cX7_testPlace 21 = .ok (.return_, 1) := by decide +kernel
theorem dX7_testRolled_0 : decode cX7_testRolled 0 = .ok (.iload_n 1, 1) := by decide +kernel
theorem dX7_testRolled_1 : decode cX7_testRolled 1 = .ok (.iconst 0, 1) := by decide +kernel
theorem dX7_testRolled_2 : decode cX7_testRolled 2 = .ok (.aload_n 0, 1) := by decide +kernel
theorem dX7_testRolled_3 : decode cX7_testRolled 3 = .ok (.getfield 16, 3) := by decide +kernel
theorem dX7_testRolled_6 : decode cX7_testRolled 6 = .ok (.getfield 176, 3) := by decide +kernel
theorem dX7_testRolled_9 : decode cX7_testRolled 9 = .ok (.iconst 1, 1) := by decide +kernel
theorem dX7_testRolled_10 : decode cX7_testRolled 10 = .ok (.isub, 1) := by decide +kernel
theorem dX7_testRolled_11 : decode cX7_testRolled 11 = .ok (.invokestatic 161, 3) := by decide +kernel
theorem dX7_testRolled_14 : decode cX7_testRolled 14 = .ok (.ifCond .ne 14, 3) := by decide +kernel
theorem dX7_testRolled_17 : decode cX7_testRolled 17 = .ok (.new 299, 3) := by decide +kernel
theorem dX7_testRolled_20 : decode cX7_testRolled 20 = .ok (.dup, 1) := by decide +kernel
theorem dX7_testRolled_21 : decode cX7_testRolled 21 = .ok (.ldc_w 306, 3) := by decide +kernel
theorem dX7_testRolled_24 : decode cX7_testRolled 24 = .ok (.invokespecial 303, 3) := by decide +kernel
theorem dX7_testRolled_27 : decode cX7_testRolled 27 = .ok (.athrow, 1) := by decide +kernel
theorem dX7_testRolled_28 : decode cX7_testRolled 28 = .ok (.return_, 1) := by decide +kernel
theorem dX7_testRange_0 : decode cX7_testRange 0 = .ok (.iload_n 0, 1) := by decide +kernel
theorem dX7_testRange_1 : decode cX7_testRange 1 = .ok (.iload_n 1, 1) := by decide +kernel
theorem dX7_testRange_2 : decode cX7_testRange 2 = .ok (.iload_n 2, 1) := by decide +kernel
theorem dX7_testRange_3 : decode cX7_testRange 3 = .ok (.invokestatic 161, 3) := by decide +kernel
theorem dX7_testRange_6 : decode cX7_testRange 6 = .ok (.ifCond .ne 14, 3) := by decide +kernel
theorem dX7_testRange_9 : decode cX7_testRange 9 = .ok (.new 123, 3) := by decide +kernel
theorem dX7_testRange_12 : decode cX7_testRange 12 = .ok (.dup, 1) := by decide +kernel
theorem dX7_testRange_13 : decode cX7_testRange 13 = .ok (.ldc_w 308, 3) := by decide +kernel
theorem dX7_testRange_16 : decode cX7_testRange 16 = .ok (.invokespecial 127, 3) := by decide +kernel
theorem dX7_testRange_19 : decode cX7_testRange 19 = .ok (.athrow, 1) := by decide +kernel
theorem dX7_testRange_20 : decode cX7_testRange 20 = .ok (.return_, 1) := by decide +kernel
theorem dX7_done_0 : decode cX7_done 0 = .ok (.aload_n 0, 1) := by decide +kernel
theorem dX7_done_1 : decode cX7_done 1 = .ok (.dup, 1) := by decide +kernel
theorem dX7_done_2 : decode cX7_done 2 = .ok (.getfield 47, 3) := by decide +kernel
theorem dX7_done_5 : decode cX7_done 5 = .ok (.iconst 1, 1) := by decide +kernel
theorem dX7_done_6 : decode cX7_done 6 = .ok (.iadd, 1) := by decide +kernel
theorem dX7_done_7 : decode cX7_done 7 = .ok (.putfield 47, 3) := by decide +kernel
theorem dX7_done_10 : decode cX7_done 10 = .ok (.iload_n 1, 1) := by decide +kernel
theorem dX7_done_11 : decode cX7_done 11 = .ok (.ireturn, 1) := by decide +kernel
theorem dX7_refuse_0 : decode cX7_refuse 0 = .ok (.aload_n 0, 1) := by decide +kernel
theorem dX7_refuse_1 : decode cX7_refuse 1 = .ok (.dup, 1) := by decide +kernel
theorem dX7_refuse_2 : decode cX7_refuse 2 = .ok (.getfield 51, 3) := by decide +kernel
theorem dX7_refuse_5 : decode cX7_refuse 5 = .ok (.iconst 1, 1) := by decide +kernel
theorem dX7_refuse_6 : decode cX7_refuse 6 = .ok (.iadd, 1) := by decide +kernel
theorem dX7_refuse_7 : decode cX7_refuse 7 = .ok (.putfield 51, 3) := by decide +kernel
theorem dX7_refuse_10 : decode cX7_refuse 10 = .ok (.bipush (-9), 2) := by decide +kernel
theorem dX7_refuse_12 : decode cX7_refuse 12 = .ok (.ireturn, 1) := by decide +kernel
theorem dX7_become_0 : decode cX7_become 0 = .ok (.aload_n 0, 1) := by decide +kernel
theorem dX7_become_1 : decode cX7_become 1 = .ok (.getfield 9, 3) := by decide +kernel
theorem dX7_become_4 : decode cX7_become 4 = .ok (.iload_n 1, 1) := by decide +kernel
theorem dX7_become_5 : decode cX7_become 5 = .ok (.lload_n 2, 1) := by decide +kernel
theorem dX7_become_6 : decode cX7_become 6 = .ok (.lastore, 1) := by decide +kernel
theorem dX7_become_7 : decode cX7_become 7 = .ok (.aload_n 0, 1) := by decide +kernel
theorem dX7_become_8 : decode cX7_become 8 = .ok (.lload_n 2, 1) := by decide +kernel
theorem dX7_become_9 : decode cX7_become 9 = .ok (.invokestatic 66, 3) := by decide +kernel
theorem dX7_become_12 : decode cX7_become 12 = .ok (.invokevirtual 72, 3) := by decide +kernel
theorem dX7_become_15 : decode cX7_become 15 = .ok (.ireturn, 1) := by decide +kernel
theorem dX7_canBeSealed_0 : decode cX7_canBeSealed 0 = .ok (.aload_n 0, 1) := by decide +kernel
theorem dX7_canBeSealed_1 : decode cX7_canBeSealed 1 = .ok (.getfield 9, 3) := by decide +kernel
theorem dX7_canBeSealed_4 : decode cX7_canBeSealed 4 = .ok (.iload_n 1, 1) := by decide +kernel
theorem dX7_canBeSealed_5 : decode cX7_canBeSealed 5 = .ok (.laload, 1) := by decide +kernel
theorem dX7_canBeSealed_6 : decode cX7_canBeSealed 6 = .ok (.invokestatic 66, 3) := by decide +kernel
theorem dX7_canBeSealed_9 : decode cX7_canBeSealed 9 = .ok (.aload_n 0, 1) := by decide +kernel
theorem dX7_canBeSealed_10 : decode cX7_canBeSealed 10 = .ok (.getfield 9, 3) := by decide +kernel
theorem dX7_canBeSealed_13 : decode cX7_canBeSealed 13 = .ok (.iload_n 2, 1) := by decide +kernel
theorem dX7_canBeSealed_14 : decode cX7_canBeSealed 14 = .ok (.laload, 1) := by decide +kernel
theorem dX7_canBeSealed_15 : decode cX7_canBeSealed 15 = .ok (.invokestatic 66, 3) := by decide +kernel
theorem dX7_canBeSealed_18 : decode cX7_canBeSealed 18 = .ok (.iadd, 1) := by decide +kernel
theorem dX7_canBeSealed_19 : decode cX7_canBeSealed 19 = .ok (.bipush 39, 2) := by decide +kernel
theorem dX7_canBeSealed_21 : decode cX7_canBeSealed 21 = .ok (.if_icmp .gt 7, 3) := by decide +kernel
theorem dX7_canBeSealed_24 : decode cX7_canBeSealed 24 = .ok (.iconst 1, 1) := by decide +kernel
theorem dX7_canBeSealed_25 : decode cX7_canBeSealed 25 = .ok (.goto 4, 3) := by decide +kernel
theorem dX7_canBeSealed_28 : decode cX7_canBeSealed 28 = .ok (.iconst 0, 1) := by decide +kernel
theorem dX7_canBeSealed_29 : decode cX7_canBeSealed 29 = .ok (.ireturn, 1) := by decide +kernel
theorem dX7_onesOfAll_0 : decode cX7_onesOfAll 0 = .ok (.iconst 0, 1) := by decide +kernel
theorem dX7_onesOfAll_1 : decode cX7_onesOfAll 1 = .ok (.istore_n 1, 1) := by decide +kernel
theorem dX7_onesOfAll_2 : decode cX7_onesOfAll 2 = .ok (.iconst 0, 1) := by decide +kernel
theorem dX7_onesOfAll_3 : decode cX7_onesOfAll 3 = .ok (.istore_n 2, 1) := by decide +kernel
theorem dX7_onesOfAll_4 : decode cX7_onesOfAll 4 = .ok (.iload_n 2, 1) := by decide +kernel
theorem dX7_onesOfAll_5 : decode cX7_onesOfAll 5 = .ok (.bipush 6, 2) := by decide +kernel
theorem dX7_onesOfAll_7 : decode cX7_onesOfAll 7 = .ok (.if_icmp .ge 21, 3) := by decide +kernel
theorem dX7_onesOfAll_10 : decode cX7_onesOfAll 10 = .ok (.iload_n 1, 1) := by decide +kernel
theorem dX7_onesOfAll_11 : decode cX7_onesOfAll 11 = .ok (.aload_n 0, 1) := by decide +kernel
theorem dX7_onesOfAll_12 : decode cX7_onesOfAll 12 = .ok (.getfield 9, 3) := by decide +kernel
theorem dX7_onesOfAll_15 : decode cX7_onesOfAll 15 = .ok (.iload_n 2, 1) := by decide +kernel
theorem dX7_onesOfAll_16 : decode cX7_onesOfAll 16 = .ok (.laload, 1) := by decide +kernel
theorem dX7_onesOfAll_17 : decode cX7_onesOfAll 17 = .ok (.invokestatic 83, 3) := by decide +kernel
theorem dX7_onesOfAll_20 : decode cX7_onesOfAll 20 = .ok (.iadd, 1) := by decide +kernel
theorem dX7_onesOfAll_21 : decode cX7_onesOfAll 21 = .ok (.istore_n 1, 1) := by decide +kernel
theorem dX7_onesOfAll_22 : decode cX7_onesOfAll 22 = .ok (.iinc 2 1, 3) := by decide +kernel
theorem dX7_onesOfAll_25 : decode cX7_onesOfAll 25 = .ok (.goto (-21), 3) := by decide +kernel
theorem dX7_onesOfAll_28 : decode cX7_onesOfAll 28 = .ok (.iload_n 1, 1) := by decide +kernel
theorem dX7_onesOfAll_29 : decode cX7_onesOfAll 29 = .ok (.ireturn, 1) := by decide +kernel
theorem dX7_periodByFactors_0 : decode cX7_periodByFactors 0 = .ok (.aload_n 0, 1) := by decide +kernel
theorem dX7_periodByFactors_1 : decode cX7_periodByFactors 1 = .ok (.getfield 37, 3) := by decide +kernel
theorem dX7_periodByFactors_4 : decode cX7_periodByFactors 4 = .ok (.lload_n 1, 1) := by decide +kernel
theorem dX7_periodByFactors_5 : decode cX7_periodByFactors 5 = .ok (.aload_n 0, 1) := by decide +kernel
theorem dX7_periodByFactors_6 : decode cX7_periodByFactors 6 = .ok (.getfield 41, 3) := by decide +kernel
theorem dX7_periodByFactors_9 : decode cX7_periodByFactors 9 = .ok (.invokevirtual 165, 3) := by decide +kernel
theorem dX7_periodByFactors_12 : decode cX7_periodByFactors 12 = .ok (.aload_n 0, 1) := by decide +kernel
theorem dX7_periodByFactors_13 : decode cX7_periodByFactors 13 = .ok (.getfield 41, 3) := by decide +kernel
theorem dX7_periodByFactors_16 : decode cX7_periodByFactors 16 = .ok (.invokestatic 310, 3) := by decide +kernel
theorem dX7_periodByFactors_19 : decode cX7_periodByFactors 19 = .ok (.ireturn, 1) := by decide +kernel
theorem dX7_isProductSound_0 : decode cX7_isProductSound 0 = .ok (.lload_n 1, 1) := by decide +kernel
theorem dX7_isProductSound_1 : decode cX7_isProductSound 1 = .ok (.lload_n 3, 1) := by decide +kernel
theorem dX7_isProductSound_2 : decode cX7_isProductSound 2 = .ok (.invokestatic 107, 3) := by decide +kernel
theorem dX7_isProductSound_5 : decode cX7_isProductSound 5 = .ok (.lstore 5, 2) := by decide +kernel
theorem dX7_isProductSound_7 : decode cX7_isProductSound 7 = .ok (.lload 5, 2) := by decide +kernel
theorem dX7_isProductSound_9 : decode cX7_isProductSound 9 = .ok (.lload_n 3, 1) := by decide +kernel
theorem dX7_isProductSound_10 : decode cX7_isProductSound 10 = .ok (.lload_n 1, 1) := by decide +kernel
theorem dX7_isProductSound_11 : decode cX7_isProductSound 11 = .ok (.invokestatic 107, 3) := by decide +kernel
theorem dX7_isProductSound_14 : decode cX7_isProductSound 14 = .ok (.lcmp, 1) := by decide +kernel
theorem dX7_isProductSound_15 : decode cX7_isProductSound 15 = .ok (.ifCond .ne 16, 3) := by decide +kernel
theorem dX7_isProductSound_18 : decode cX7_isProductSound 18 = .ok (.lload_n 1, 1) := by decide +kernel
theorem dX7_isProductSound_19 : decode cX7_isProductSound 19 = .ok (.lload_n 1, 1) := by decide +kernel
theorem dX7_isProductSound_20 : decode cX7_isProductSound 20 = .ok (.invokestatic 107, 3) := by decide +kernel
theorem dX7_isProductSound_23 : decode cX7_isProductSound 23 = .ok (.lload_n 1, 1) := by decide +kernel
theorem dX7_isProductSound_24 : decode cX7_isProductSound 24 = .ok (.invokestatic 111, 3) := by decide +kernel
theorem dX7_isProductSound_27 : decode cX7_isProductSound 27 = .ok (.lcmp, 1) := by decide +kernel
theorem dX7_isProductSound_28 : decode cX7_isProductSound 28 = .ok (.ifCond .eq 5, 3) := by decide +kernel
theorem dX7_isProductSound_31 : decode cX7_isProductSound 31 = .ok (.iconst 0, 1) := by decide +kernel
theorem dX7_isProductSound_32 : decode cX7_isProductSound 32 = .ok (.ireturn, 1) := by decide +kernel
theorem dX7_isProductSound_33 : decode cX7_isProductSound 33 = .ok (.lload_n 3, 1) := by decide +kernel
theorem dX7_isProductSound_34 : decode cX7_isProductSound 34 = .ok (.lconst 0, 1) := by decide +kernel
theorem dX7_isProductSound_35 : decode cX7_isProductSound 35 = .ok (.lcmp, 1) := by decide +kernel
theorem dX7_isProductSound_36 : decode cX7_isProductSound 36 = .ok (.ifCond .eq 25, 3) := by decide +kernel
theorem dX7_isProductSound_39 : decode cX7_isProductSound 39 = .ok (.lload 5, 2) := by decide +kernel
theorem dX7_isProductSound_41 : decode cX7_isProductSound 41 = .ok (.lload_n 3, 1) := by decide +kernel
theorem dX7_isProductSound_42 : decode cX7_isProductSound 42 = .ok (.invokestatic 114, 3) := by decide +kernel
theorem dX7_isProductSound_45 : decode cX7_isProductSound 45 = .ok (.lload_n 1, 1) := by decide +kernel
theorem dX7_isProductSound_46 : decode cX7_isProductSound 46 = .ok (.lcmp, 1) := by decide +kernel
theorem dX7_isProductSound_47 : decode cX7_isProductSound 47 = .ok (.ifCond .ne 18, 3) := by decide +kernel
theorem dX7_isProductSound_50 : decode cX7_isProductSound 50 = .ok (.lload 5, 2) := by decide +kernel
theorem dX7_isProductSound_52 : decode cX7_isProductSound 52 = .ok (.lload_n 3, 1) := by decide +kernel
theorem dX7_isProductSound_53 : decode cX7_isProductSound 53 = .ok (.invokestatic 117, 3) := by decide +kernel
theorem dX7_isProductSound_56 : decode cX7_isProductSound 56 = .ok (.lconst 0, 1) := by decide +kernel
theorem dX7_isProductSound_57 : decode cX7_isProductSound 57 = .ok (.lcmp, 1) := by decide +kernel
theorem dX7_isProductSound_58 : decode cX7_isProductSound 58 = .ok (.ifCond .ne 7, 3) := by decide +kernel
theorem dX7_isProductSound_61 : decode cX7_isProductSound 61 = .ok (.iconst 1, 1) := by decide +kernel
theorem dX7_isProductSound_62 : decode cX7_isProductSound 62 = .ok (.goto 4, 3) := by decide +kernel
theorem dX7_isProductSound_65 : decode cX7_isProductSound 65 = .ok (.iconst 0, 1) := by decide +kernel
theorem dX7_isProductSound_66 : decode cX7_isProductSound 66 = .ok (.ireturn, 1) := by decide +kernel
theorem dX7_isCommonSound_0 : decode cX7_isCommonSound 0 = .ok (.lload_n 1, 1) := by decide +kernel
theorem dX7_isCommonSound_1 : decode cX7_isCommonSound 1 = .ok (.lload_n 3, 1) := by decide +kernel
theorem dX7_isCommonSound_2 : decode cX7_isCommonSound 2 = .ok (.invokestatic 120, 3) := by decide +kernel
theorem dX7_isCommonSound_5 : decode cX7_isCommonSound 5 = .ok (.lstore 5, 2) := by decide +kernel
theorem dX7_isCommonSound_7 : decode cX7_isCommonSound 7 = .ok (.aload_n 0, 1) := by decide +kernel
theorem dX7_isCommonSound_8 : decode cX7_isCommonSound 8 = .ok (.getfield 30, 3) := by decide +kernel
theorem dX7_isCommonSound_11 : decode cX7_isCommonSound 11 = .ok (.lload_n 1, 1) := by decide +kernel
theorem dX7_isCommonSound_12 : decode cX7_isCommonSound 12 = .ok (.lload_n 3, 1) := by decide +kernel
theorem dX7_isCommonSound_13 : decode cX7_isCommonSound 13 = .ok (.invokevirtual 130, 3) := by decide +kernel
theorem dX7_isCommonSound_16 : decode cX7_isCommonSound 16 = .ok (.lload_n 1, 1) := by decide +kernel
theorem dX7_isCommonSound_17 : decode cX7_isCommonSound 17 = .ok (.aload_n 0, 1) := by decide +kernel
theorem dX7_isCommonSound_18 : decode cX7_isCommonSound 18 = .ok (.getfield 30, 3) := by decide +kernel
theorem dX7_isCommonSound_21 : decode cX7_isCommonSound 21 = .ok (.getfield 134, 3) := by decide +kernel
theorem dX7_isCommonSound_24 : decode cX7_isCommonSound 24 = .ok (.invokestatic 107, 3) := by decide +kernel
theorem dX7_isCommonSound_27 : decode cX7_isCommonSound 27 = .ok (.lload_n 3, 1) := by decide +kernel
theorem dX7_isCommonSound_28 : decode cX7_isCommonSound 28 = .ok (.aload_n 0, 1) := by decide +kernel
theorem dX7_isCommonSound_29 : decode cX7_isCommonSound 29 = .ok (.getfield 30, 3) := by decide +kernel
theorem dX7_isCommonSound_32 : decode cX7_isCommonSound 32 = .ok (.getfield 138, 3) := by decide +kernel
theorem dX7_isCommonSound_35 : decode cX7_isCommonSound 35 = .ok (.invokestatic 107, 3) := by decide +kernel
theorem dX7_isCommonSound_38 : decode cX7_isCommonSound 38 = .ok (.lxor, 1) := by decide +kernel
theorem dX7_isCommonSound_39 : decode cX7_isCommonSound 39 = .ok (.lstore 7, 2) := by decide +kernel
theorem dX7_isCommonSound_41 : decode cX7_isCommonSound 41 = .ok (.lload 5, 2) := by decide +kernel
theorem dX7_isCommonSound_43 : decode cX7_isCommonSound 43 = .ok (.lload_n 1, 1) := by decide +kernel
theorem dX7_isCommonSound_44 : decode cX7_isCommonSound 44 = .ok (.invokestatic 234, 3) := by decide +kernel
theorem dX7_isCommonSound_47 : decode cX7_isCommonSound 47 = .ok (.ifCond .eq 24, 3) := by decide +kernel
theorem dX7_isCommonSound_50 : decode cX7_isCommonSound 50 = .ok (.lload 5, 2) := by decide +kernel
theorem dX7_isCommonSound_52 : decode cX7_isCommonSound 52 = .ok (.lload_n 3, 1) := by decide +kernel
theorem dX7_isCommonSound_53 : decode cX7_isCommonSound 53 = .ok (.invokestatic 234, 3) := by decide +kernel
theorem dX7_isCommonSound_56 : decode cX7_isCommonSound 56 = .ok (.ifCond .eq 15, 3) := by decide +kernel
theorem dX7_isCommonSound_59 : decode cX7_isCommonSound 59 = .ok (.lload 7, 2) := by decide +kernel
theorem dX7_isCommonSound_61 : decode cX7_isCommonSound 61 = .ok (.lload 5, 2) := by decide +kernel
theorem dX7_isCommonSound_63 : decode cX7_isCommonSound 63 = .ok (.lcmp, 1) := by decide +kernel
theorem dX7_isCommonSound_64 : decode cX7_isCommonSound 64 = .ok (.ifCond .ne 7, 3) := by decide +kernel
theorem dX7_isCommonSound_67 : decode cX7_isCommonSound 67 = .ok (.iconst 1, 1) := by decide +kernel
theorem dX7_isCommonSound_68 : decode cX7_isCommonSound 68 = .ok (.goto 4, 3) := by decide +kernel
theorem dX7_isCommonSound_71 : decode cX7_isCommonSound 71 = .ok (.iconst 0, 1) := by decide +kernel
theorem dX7_isCommonSound_72 : decode cX7_isCommonSound 72 = .ok (.ireturn, 1) := by decide +kernel
theorem dX7_mixed_0 : decode cX7_mixed 0 = .ok (.lload_n 0, 1) := by decide +kernel
theorem dX7_mixed_1 : decode cX7_mixed 1 = .ok (.ldc2_w 313, 3) := by decide +kernel
theorem dX7_mixed_4 : decode cX7_mixed 4 = .ok (.lmul, 1) := by decide +kernel
theorem dX7_mixed_5 : decode cX7_mixed 5 = .ok (.lload_n 2, 1) := by decide +kernel
theorem dX7_mixed_6 : decode cX7_mixed 6 = .ok (.ladd, 1) := by decide +kernel
theorem dX7_mixed_7 : decode cX7_mixed 7 = .ok (.lreturn, 1) := by decide +kernel
theorem dX7_digestOfForm_0 : decode cX7_digestOfForm 0 = .ok (.lload_n 0, 1) := by decide +kernel
theorem dX7_digestOfForm_1 : decode cX7_digestOfForm 1 = .ok (.lload_n 2, 1) := by decide +kernel
theorem dX7_digestOfForm_2 : decode cX7_digestOfForm 2 = .ok (.invokestatic 66, 3) := by decide +kernel
theorem dX7_digestOfForm_5 : decode cX7_digestOfForm 5 = .ok (.i2l, 1) := by decide +kernel
theorem dX7_digestOfForm_6 : decode cX7_digestOfForm 6 = .ok (.invokestatic 290, 3) := by decide +kernel
theorem dX7_digestOfForm_9 : decode cX7_digestOfForm 9 = .ok (.lload_n 2, 1) := by decide +kernel
theorem dX7_digestOfForm_10 : decode cX7_digestOfForm 10 = .ok (.invokestatic 227, 3) := by decide +kernel
theorem dX7_digestOfForm_13 : decode cX7_digestOfForm 13 = .ok (.i2l, 1) := by decide +kernel
theorem dX7_digestOfForm_14 : decode cX7_digestOfForm 14 = .ok (.invokestatic 290, 3) := by decide +kernel
theorem dX7_digestOfForm_17 : decode cX7_digestOfForm 17 = .ok (.lstore 4, 2) := by decide +kernel
theorem dX7_digestOfForm_19 : decode cX7_digestOfForm 19 = .ok (.lload_n 2, 1) := by decide +kernel
theorem dX7_digestOfForm_20 : decode cX7_digestOfForm 20 = .ok (.invokestatic 66, 3) := by decide +kernel
theorem dX7_digestOfForm_23 : decode cX7_digestOfForm 23 = .ok (.istore 6, 2) := by decide +kernel
theorem dX7_digestOfForm_25 : decode cX7_digestOfForm 25 = .ok (.iload 6, 2) := by decide +kernel
theorem dX7_digestOfForm_27 : decode cX7_digestOfForm 27 = .ok (.ifCond .lt 28, 3) := by decide +kernel
theorem dX7_digestOfForm_30 : decode cX7_digestOfForm 30 = .ok (.lload_n 2, 1) := by decide +kernel
theorem dX7_digestOfForm_31 : decode cX7_digestOfForm 31 = .ok (.iload 6, 2) := by decide +kernel
theorem dX7_digestOfForm_33 : decode cX7_digestOfForm 33 = .ok (.invokestatic 79, 3) := by decide +kernel
theorem dX7_digestOfForm_36 : decode cX7_digestOfForm 36 = .ok (.ifCond .eq 13, 3) := by decide +kernel
theorem dX7_digestOfForm_39 : decode cX7_digestOfForm 39 = .ok (.lload 4, 2) := by decide +kernel
theorem dX7_digestOfForm_41 : decode cX7_digestOfForm 41 = .ok (.iload 6, 2) := by decide +kernel
theorem dX7_digestOfForm_43 : decode cX7_digestOfForm 43 = .ok (.i2l, 1) := by decide +kernel
theorem dX7_digestOfForm_44 : decode cX7_digestOfForm 44 = .ok (.invokestatic 290, 3) := by decide +kernel
theorem dX7_digestOfForm_47 : decode cX7_digestOfForm 47 = .ok (.lstore 4, 2) := by decide +kernel
theorem dX7_digestOfForm_49 : decode cX7_digestOfForm 49 = .ok (.iinc 6 (-1), 3) := by decide +kernel
theorem dX7_digestOfForm_52 : decode cX7_digestOfForm 52 = .ok (.goto (-27), 3) := by decide +kernel
theorem dX7_digestOfForm_55 : decode cX7_digestOfForm 55 = .ok (.lload 4, 2) := by decide +kernel
theorem dX7_digestOfForm_57 : decode cX7_digestOfForm 57 = .ok (.lreturn, 1) := by decide +kernel
theorem dX8_init_0 : decode cX8_init 0 = .ok (.aload_n 0, 1) := by decide +kernel
theorem dX8_init_1 : decode cX8_init 1 = .ok (.invokespecial 1, 3) := by decide +kernel
theorem dX8_init_4 : decode cX8_init 4 = .ok (.return_, 1) := by decide +kernel
theorem dX9_init_0 : decode cX9_init 0 = .ok (.aload_n 0, 1) := by decide +kernel
theorem dX9_init_1 : decode cX9_init 1 = .ok (.invokespecial 1, 3) := by decide +kernel
theorem dX9_init_4 : decode cX9_init 4 = .ok (.aload_n 0, 1) := by decide +kernel
theorem dX9_init_5 : decode cX9_init 5 = .ok (.bipush 6, 2) := by decide +kernel
theorem dX9_init_7 : decode cX9_init 7 = .ok (.newarray .long, 2) := by decide +kernel
theorem dX9_init_9 : decode cX9_init 9 = .ok (.putfield 9, 3) := by decide +kernel
theorem dX9_init_12 : decode cX9_init 12 = .ok (.aload_n 0, 1) := by decide +kernel
theorem dX9_init_13 : decode cX9_init 13 = .ok (.bipush 12, 2) := by decide +kernel
theorem dX9_init_15 : decode cX9_init 15 = .ok (.newarray .long, 2) := by decide +kernel
theorem dX9_init_17 : decode cX9_init 17 = .ok (.putfield 13, 3) := by decide +kernel
theorem dX9_init_20 : decode cX9_init 20 = .ok (.aload_n 0, 1) := by decide +kernel
theorem dX9_init_21 : decode cX9_init 21 = .ok (.ldc2_w 16, 3) := by decide +kernel
theorem dX9_init_24 : decode cX9_init 24 = .ok (.putfield 18, 3) := by decide +kernel
theorem dX9_init_27 : decode cX9_init 27 = .ok (.aload_n 0, 1) := by decide +kernel
theorem dX9_init_28 : decode cX9_init 28 = .ok (.iconst 1, 1) := by decide +kernel
theorem dX9_init_29 : decode cX9_init 29 = .ok (.putfield 22, 3) := by decide +kernel
theorem dX9_init_32 : decode cX9_init 32 = .ok (.return_, 1) := by decide +kernel
theorem dX9_degreeOf_0 : decode cX9_degreeOf 0 = .ok (.bipush 63, 2) := by decide +kernel
theorem dX9_degreeOf_2 : decode cX9_degreeOf 2 = .ok (.lload_n 0, 1) := by decide +kernel
theorem dX9_degreeOf_3 : decode cX9_degreeOf 3 = .ok (.invokestatic 29, 3) := by decide +kernel
theorem dX9_degreeOf_6 : decode cX9_degreeOf 6 = .ok (.isub, 1) := by decide +kernel
theorem dX9_degreeOf_7 : decode cX9_degreeOf 7 = .ok (.ireturn, 1) := by decide +kernel
theorem dX9_onesOf_0 : decode cX9_onesOf 0 = .ok (.lload_n 0, 1) := by decide +kernel
theorem dX9_onesOf_1 : decode cX9_onesOf 1 = .ok (.invokestatic 35, 3) := by decide +kernel
theorem dX9_onesOf_4 : decode cX9_onesOf 4 = .ok (.ireturn, 1) := by decide +kernel
theorem dX9_lowestOf_0 : decode cX9_lowestOf 0 = .ok (.lload_n 0, 1) := by decide +kernel
theorem dX9_lowestOf_1 : decode cX9_lowestOf 1 = .ok (.lconst 0, 1) := by decide +kernel
theorem dX9_lowestOf_2 : decode cX9_lowestOf 2 = .ok (.lcmp, 1) := by decide +kernel
theorem dX9_lowestOf_3 : decode cX9_lowestOf 3 = .ok (.ifCond .ne 7, 3) := by decide +kernel
theorem dX9_lowestOf_6 : decode cX9_lowestOf 6 = .ok (.iconst (-1), 1) := by decide +kernel
theorem dX9_lowestOf_7 : decode cX9_lowestOf 7 = .ok (.goto 7, 3) := by decide +kernel
theorem dX9_lowestOf_10 : decode cX9_lowestOf 10 = .ok (.lload_n 0, 1) := by decide +kernel
theorem dX9_lowestOf_11 : decode cX9_lowestOf 11 = .ok (.invokestatic 38, 3) := by decide +kernel
theorem dX9_lowestOf_14 : decode cX9_lowestOf 14 = .ok (.ireturn, 1) := by decide +kernel
theorem dX9_productOf_0 : decode cX9_productOf 0 = .ok (.lconst 0, 1) := by decide +kernel
theorem dX9_productOf_1 : decode cX9_productOf 1 = .ok (.lstore 4, 2) := by decide +kernel
theorem dX9_productOf_3 : decode cX9_productOf 3 = .ok (.iconst 0, 1) := by decide +kernel
theorem dX9_productOf_4 : decode cX9_productOf 4 = .ok (.istore 6, 2) := by decide +kernel
theorem dX9_productOf_6 : decode cX9_productOf 6 = .ok (.iload 6, 2) := by decide +kernel
theorem dX9_productOf_8 : decode cX9_productOf 8 = .ok (.bipush 40, 2) := by decide +kernel
theorem dX9_productOf_10 : decode cX9_productOf 10 = .ok (.if_icmp .ge 29, 3) := by decide +kernel
theorem dX9_productOf_13 : decode cX9_productOf 13 = .ok (.lload_n 2, 1) := by decide +kernel
theorem dX9_productOf_14 : decode cX9_productOf 14 = .ok (.iload 6, 2) := by decide +kernel
theorem dX9_productOf_16 : decode cX9_productOf 16 = .ok (.lshr, 1) := by decide +kernel
theorem dX9_productOf_17 : decode cX9_productOf 17 = .ok (.lconst 1, 1) := by decide +kernel
theorem dX9_productOf_18 : decode cX9_productOf 18 = .ok (.land, 1) := by decide +kernel
theorem dX9_productOf_19 : decode cX9_productOf 19 = .ok (.lconst 1, 1) := by decide +kernel
theorem dX9_productOf_20 : decode cX9_productOf 20 = .ok (.lcmp, 1) := by decide +kernel
theorem dX9_productOf_21 : decode cX9_productOf 21 = .ok (.ifCond .ne 12, 3) := by decide +kernel
theorem dX9_productOf_24 : decode cX9_productOf 24 = .ok (.lload 4, 2) := by decide +kernel
theorem dX9_productOf_26 : decode cX9_productOf 26 = .ok (.lload_n 0, 1) := by decide +kernel
theorem dX9_productOf_27 : decode cX9_productOf 27 = .ok (.iload 6, 2) := by decide +kernel
theorem dX9_productOf_29 : decode cX9_productOf 29 = .ok (.lshl, 1) := by decide +kernel
theorem dX9_productOf_30 : decode cX9_productOf 30 = .ok (.lxor, 1) := by decide +kernel
theorem dX9_productOf_31 : decode cX9_productOf 31 = .ok (.lstore 4, 2) := by decide +kernel
theorem dX9_productOf_33 : decode cX9_productOf 33 = .ok (.iinc 6 1, 3) := by decide +kernel
theorem dX9_productOf_36 : decode cX9_productOf 36 = .ok (.goto (-30), 3) := by decide +kernel
theorem dX9_productOf_39 : decode cX9_productOf 39 = .ok (.lload 4, 2) := by decide +kernel
theorem dX9_productOf_41 : decode cX9_productOf 41 = .ok (.lreturn, 1) := by decide +kernel
theorem dX9_quotientOf_0 : decode cX9_quotientOf 0 = .ok (.lload_n 0, 1) := by decide +kernel
theorem dX9_quotientOf_1 : decode cX9_quotientOf 1 = .ok (.lstore 4, 2) := by decide +kernel
theorem dX9_quotientOf_3 : decode cX9_quotientOf 3 = .ok (.lconst 0, 1) := by decide +kernel
theorem dX9_quotientOf_4 : decode cX9_quotientOf 4 = .ok (.lstore 6, 2) := by decide +kernel
theorem dX9_quotientOf_6 : decode cX9_quotientOf 6 = .ok (.lload_n 2, 1) := by decide +kernel
theorem dX9_quotientOf_7 : decode cX9_quotientOf 7 = .ok (.invokestatic 41, 3) := by decide +kernel
theorem dX9_quotientOf_10 : decode cX9_quotientOf 10 = .ok (.istore 8, 2) := by decide +kernel
theorem dX9_quotientOf_12 : decode cX9_quotientOf 12 = .ok (.lload_n 0, 1) := by decide +kernel
theorem dX9_quotientOf_13 : decode cX9_quotientOf 13 = .ok (.invokestatic 41, 3) := by decide +kernel
theorem dX9_quotientOf_16 : decode cX9_quotientOf 16 = .ok (.iload 8, 2) := by decide +kernel
theorem dX9_quotientOf_18 : decode cX9_quotientOf 18 = .ok (.isub, 1) := by decide +kernel
theorem dX9_quotientOf_19 : decode cX9_quotientOf 19 = .ok (.istore 9, 2) := by decide +kernel
theorem dX9_quotientOf_21 : decode cX9_quotientOf 21 = .ok (.iload 9, 2) := by decide +kernel
theorem dX9_quotientOf_23 : decode cX9_quotientOf 23 = .ok (.ifCond .lt 45, 3) := by decide +kernel
theorem dX9_quotientOf_26 : decode cX9_quotientOf 26 = .ok (.lload 4, 2) := by decide +kernel
theorem dX9_quotientOf_28 : decode cX9_quotientOf 28 = .ok (.iload 9, 2) := by decide +kernel
theorem dX9_quotientOf_30 : decode cX9_quotientOf 30 = .ok (.iload 8, 2) := by decide +kernel
theorem dX9_quotientOf_32 : decode cX9_quotientOf 32 = .ok (.iadd, 1) := by decide +kernel
theorem dX9_quotientOf_33 : decode cX9_quotientOf 33 = .ok (.lshr, 1) := by decide +kernel
theorem dX9_quotientOf_34 : decode cX9_quotientOf 34 = .ok (.lconst 1, 1) := by decide +kernel
theorem dX9_quotientOf_35 : decode cX9_quotientOf 35 = .ok (.land, 1) := by decide +kernel
theorem dX9_quotientOf_36 : decode cX9_quotientOf 36 = .ok (.lconst 0, 1) := by decide +kernel
theorem dX9_quotientOf_37 : decode cX9_quotientOf 37 = .ok (.lcmp, 1) := by decide +kernel
theorem dX9_quotientOf_38 : decode cX9_quotientOf 38 = .ok (.ifCond .ne 6, 3) := by decide +kernel
theorem dX9_quotientOf_41 : decode cX9_quotientOf 41 = .ok (.goto 21, 3) := by decide +kernel
theorem dX9_quotientOf_44 : decode cX9_quotientOf 44 = .ok (.lload 4, 2) := by decide +kernel
theorem dX9_quotientOf_46 : decode cX9_quotientOf 46 = .ok (.lload_n 2, 1) := by decide +kernel
theorem dX9_quotientOf_47 : decode cX9_quotientOf 47 = .ok (.iload 9, 2) := by decide +kernel
theorem dX9_quotientOf_49 : decode cX9_quotientOf 49 = .ok (.lshl, 1) := by decide +kernel
theorem dX9_quotientOf_50 : decode cX9_quotientOf 50 = .ok (.lxor, 1) := by decide +kernel
theorem dX9_quotientOf_51 : decode cX9_quotientOf 51 = .ok (.lstore 4, 2) := by decide +kernel
theorem dX9_quotientOf_53 : decode cX9_quotientOf 53 = .ok (.lload 6, 2) := by decide +kernel
theorem dX9_quotientOf_55 : decode cX9_quotientOf 55 = .ok (.lconst 1, 1) := by decide +kernel
theorem dX9_quotientOf_56 : decode cX9_quotientOf 56 = .ok (.iload 9, 2) := by decide +kernel
theorem dX9_quotientOf_58 : decode cX9_quotientOf 58 = .ok (.lshl, 1) := by decide +kernel
theorem dX9_quotientOf_59 : decode cX9_quotientOf 59 = .ok (.lor, 1) := by decide +kernel
theorem dX9_quotientOf_60 : decode cX9_quotientOf 60 = .ok (.lstore 6, 2) := by decide +kernel
theorem dX9_quotientOf_62 : decode cX9_quotientOf 62 = .ok (.iinc 9 (-1), 3) := by decide +kernel
theorem dX9_quotientOf_65 : decode cX9_quotientOf 65 = .ok (.goto (-44), 3) := by decide +kernel
theorem dX9_quotientOf_68 : decode cX9_quotientOf 68 = .ok (.lload 6, 2) := by decide +kernel
theorem dX9_quotientOf_70 : decode cX9_quotientOf 70 = .ok (.lreturn, 1) := by decide +kernel
theorem dX9_restOf_0 : decode cX9_restOf 0 = .ok (.lload_n 0, 1) := by decide +kernel
theorem dX9_restOf_1 : decode cX9_restOf 1 = .ok (.lload_n 0, 1) := by decide +kernel
theorem dX9_restOf_2 : decode cX9_restOf 2 = .ok (.lload_n 2, 1) := by decide +kernel
theorem dX9_restOf_3 : decode cX9_restOf 3 = .ok (.invokestatic 44, 3) := by decide +kernel
theorem dX9_restOf_6 : decode cX9_restOf 6 = .ok (.lload_n 2, 1) := by decide +kernel
theorem dX9_restOf_7 : decode cX9_restOf 7 = .ok (.invokestatic 48, 3) := by decide +kernel
theorem dX9_restOf_10 : decode cX9_restOf 10 = .ok (.lxor, 1) := by decide +kernel
theorem dX9_restOf_11 : decode cX9_restOf 11 = .ok (.lreturn, 1) := by decide +kernel
theorem dX9_commonOf_0 : decode cX9_commonOf 0 = .ok (.lload_n 0, 1) := by decide +kernel
theorem dX9_commonOf_1 : decode cX9_commonOf 1 = .ok (.lstore 4, 2) := by decide +kernel
theorem dX9_commonOf_3 : decode cX9_commonOf 3 = .ok (.lload_n 2, 1) := by decide +kernel
theorem dX9_commonOf_4 : decode cX9_commonOf 4 = .ok (.lstore 6, 2) := by decide +kernel
theorem dX9_commonOf_6 : decode cX9_commonOf 6 = .ok (.lload 6, 2) := by decide +kernel
theorem dX9_commonOf_8 : decode cX9_commonOf 8 = .ok (.lconst 0, 1) := by decide +kernel
theorem dX9_commonOf_9 : decode cX9_commonOf 9 = .ok (.lcmp, 1) := by decide +kernel
theorem dX9_commonOf_10 : decode cX9_commonOf 10 = .ok (.ifCond .eq 23, 3) := by decide +kernel
theorem dX9_commonOf_13 : decode cX9_commonOf 13 = .ok (.lload 4, 2) := by decide +kernel
theorem dX9_commonOf_15 : decode cX9_commonOf 15 = .ok (.lload 6, 2) := by decide +kernel
theorem dX9_commonOf_17 : decode cX9_commonOf 17 = .ok (.invokestatic 51, 3) := by decide +kernel
theorem dX9_commonOf_20 : decode cX9_commonOf 20 = .ok (.lstore 8, 2) := by decide +kernel
theorem dX9_commonOf_22 : decode cX9_commonOf 22 = .ok (.lload 6, 2) := by decide +kernel
theorem dX9_commonOf_24 : decode cX9_commonOf 24 = .ok (.lstore 4, 2) := by decide +kernel
theorem dX9_commonOf_26 : decode cX9_commonOf 26 = .ok (.lload 8, 2) := by decide +kernel
theorem dX9_commonOf_28 : decode cX9_commonOf 28 = .ok (.lstore 6, 2) := by decide +kernel
theorem dX9_commonOf_30 : decode cX9_commonOf 30 = .ok (.goto (-24), 3) := by decide +kernel
theorem dX9_commonOf_33 : decode cX9_commonOf 33 = .ok (.lload 4, 2) := by decide +kernel
theorem dX9_commonOf_35 : decode cX9_commonOf 35 = .ok (.lreturn, 1) := by decide +kernel
theorem dX9_isDivided_0 : decode cX9_isDivided 0 = .ok (.lload_n 2, 1) := by decide +kernel
theorem dX9_isDivided_1 : decode cX9_isDivided 1 = .ok (.lconst 0, 1) := by decide +kernel
theorem dX9_isDivided_2 : decode cX9_isDivided 2 = .ok (.lcmp, 1) := by decide +kernel
theorem dX9_isDivided_3 : decode cX9_isDivided 3 = .ok (.ifCond .ne 17, 3) := by decide +kernel
theorem dX9_isDivided_6 : decode cX9_isDivided 6 = .ok (.lload_n 0, 1) := by decide +kernel
theorem dX9_isDivided_7 : decode cX9_isDivided 7 = .ok (.lconst 0, 1) := by decide +kernel
theorem dX9_isDivided_8 : decode cX9_isDivided 8 = .ok (.lcmp, 1) := by decide +kernel
theorem dX9_isDivided_9 : decode cX9_isDivided 9 = .ok (.ifCond .ne 7, 3) := by decide +kernel
theorem dX9_isDivided_12 : decode cX9_isDivided 12 = .ok (.iconst 1, 1) := by decide +kernel
theorem dX9_isDivided_13 : decode cX9_isDivided 13 = .ok (.goto 22, 3) := by decide +kernel
theorem dX9_isDivided_16 : decode cX9_isDivided 16 = .ok (.iconst 0, 1) := by decide +kernel
theorem dX9_isDivided_17 : decode cX9_isDivided 17 = .ok (.goto 18, 3) := by decide +kernel
theorem dX9_isDivided_20 : decode cX9_isDivided 20 = .ok (.lload_n 0, 1) := by decide +kernel
theorem dX9_isDivided_21 : decode cX9_isDivided 21 = .ok (.lload_n 2, 1) := by decide +kernel
theorem dX9_isDivided_22 : decode cX9_isDivided 22 = .ok (.invokestatic 51, 3) := by decide +kernel
theorem dX9_isDivided_25 : decode cX9_isDivided 25 = .ok (.lconst 0, 1) := by decide +kernel
theorem dX9_isDivided_26 : decode cX9_isDivided 26 = .ok (.lcmp, 1) := by decide +kernel
theorem dX9_isDivided_27 : decode cX9_isDivided 27 = .ok (.ifCond .ne 7, 3) := by decide +kernel
theorem dX9_isDivided_30 : decode cX9_isDivided 30 = .ok (.iconst 1, 1) := by decide +kernel
theorem dX9_isDivided_31 : decode cX9_isDivided 31 = .ok (.goto 4, 3) := by decide +kernel
theorem dX9_isDivided_34 : decode cX9_isDivided 34 = .ok (.iconst 0, 1) := by decide +kernel
theorem dX9_isDivided_35 : decode cX9_isDivided 35 = .ok (.ireturn, 1) := by decide +kernel
theorem dX9_turnedOf_0 : decode cX9_turnedOf 0 = .ok (.lconst 0, 1) := by decide +kernel
theorem dX9_turnedOf_1 : decode cX9_turnedOf 1 = .ok (.lstore_n 2, 1) := by decide +kernel
theorem dX9_turnedOf_2 : decode cX9_turnedOf 2 = .ok (.lload_n 0, 1) := by decide +kernel
theorem dX9_turnedOf_3 : decode cX9_turnedOf 3 = .ok (.invokestatic 41, 3) := by decide +kernel
theorem dX9_turnedOf_6 : decode cX9_turnedOf 6 = .ok (.istore 4, 2) := by decide +kernel
theorem dX9_turnedOf_8 : decode cX9_turnedOf 8 = .ok (.iconst 0, 1) := by decide +kernel
theorem dX9_turnedOf_9 : decode cX9_turnedOf 9 = .ok (.istore 5, 2) := by decide +kernel
theorem dX9_turnedOf_11 : decode cX9_turnedOf 11 = .ok (.iload 5, 2) := by decide +kernel
theorem dX9_turnedOf_13 : decode cX9_turnedOf 13 = .ok (.iload 4, 2) := by decide +kernel
theorem dX9_turnedOf_15 : decode cX9_turnedOf 15 = .ok (.if_icmp .gt 24, 3) := by decide +kernel
theorem dX9_turnedOf_18 : decode cX9_turnedOf 18 = .ok (.lload_n 2, 1) := by decide +kernel
theorem dX9_turnedOf_19 : decode cX9_turnedOf 19 = .ok (.lload_n 0, 1) := by decide +kernel
theorem dX9_turnedOf_20 : decode cX9_turnedOf 20 = .ok (.iload 5, 2) := by decide +kernel
theorem dX9_turnedOf_22 : decode cX9_turnedOf 22 = .ok (.lshr, 1) := by decide +kernel
theorem dX9_turnedOf_23 : decode cX9_turnedOf 23 = .ok (.lconst 1, 1) := by decide +kernel
theorem dX9_turnedOf_24 : decode cX9_turnedOf 24 = .ok (.land, 1) := by decide +kernel
theorem dX9_turnedOf_25 : decode cX9_turnedOf 25 = .ok (.iload 4, 2) := by decide +kernel
theorem dX9_turnedOf_27 : decode cX9_turnedOf 27 = .ok (.iload 5, 2) := by decide +kernel
theorem dX9_turnedOf_29 : decode cX9_turnedOf 29 = .ok (.isub, 1) := by decide +kernel
theorem dX9_turnedOf_30 : decode cX9_turnedOf 30 = .ok (.lshl, 1) := by decide +kernel
theorem dX9_turnedOf_31 : decode cX9_turnedOf 31 = .ok (.lor, 1) := by decide +kernel
theorem dX9_turnedOf_32 : decode cX9_turnedOf 32 = .ok (.lstore_n 2, 1) := by decide +kernel
theorem dX9_turnedOf_33 : decode cX9_turnedOf 33 = .ok (.iinc 5 1, 3) := by decide +kernel
theorem dX9_turnedOf_36 : decode cX9_turnedOf 36 = .ok (.goto (-25), 3) := by decide +kernel
theorem dX9_turnedOf_39 : decode cX9_turnedOf 39 = .ok (.lload_n 2, 1) := by decide +kernel
theorem dX9_turnedOf_40 : decode cX9_turnedOf 40 = .ok (.lreturn, 1) := by decide +kernel
theorem dX9_powerOf_0 : decode cX9_powerOf 0 = .ok (.lconst 1, 1) := by decide +kernel
theorem dX9_powerOf_1 : decode cX9_powerOf 1 = .ok (.lload_n 3, 1) := by decide +kernel
theorem dX9_powerOf_2 : decode cX9_powerOf 2 = .ok (.invokestatic 51, 3) := by decide +kernel
theorem dX9_powerOf_5 : decode cX9_powerOf 5 = .ok (.lstore 5, 2) := by decide +kernel
theorem dX9_powerOf_7 : decode cX9_powerOf 7 = .ok (.lload_n 0, 1) := by decide +kernel
theorem dX9_powerOf_8 : decode cX9_powerOf 8 = .ok (.lload_n 3, 1) := by decide +kernel
theorem dX9_powerOf_9 : decode cX9_powerOf 9 = .ok (.invokestatic 51, 3) := by decide +kernel
theorem dX9_powerOf_12 : decode cX9_powerOf 12 = .ok (.lstore 7, 2) := by decide +kernel
theorem dX9_powerOf_14 : decode cX9_powerOf 14 = .ok (.iconst 0, 1) := by decide +kernel
theorem dX9_powerOf_15 : decode cX9_powerOf 15 = .ok (.istore 9, 2) := by decide +kernel
theorem dX9_powerOf_17 : decode cX9_powerOf 17 = .ok (.iload 9, 2) := by decide +kernel
theorem dX9_powerOf_19 : decode cX9_powerOf 19 = .ok (.iload_n 2, 1) := by decide +kernel
theorem dX9_powerOf_20 : decode cX9_powerOf 20 = .ok (.if_icmp .ge 22, 3) := by decide +kernel
theorem dX9_powerOf_23 : decode cX9_powerOf 23 = .ok (.lload 5, 2) := by decide +kernel
theorem dX9_powerOf_25 : decode cX9_powerOf 25 = .ok (.lload 7, 2) := by decide +kernel
theorem dX9_powerOf_27 : decode cX9_powerOf 27 = .ok (.invokestatic 48, 3) := by decide +kernel
theorem dX9_powerOf_30 : decode cX9_powerOf 30 = .ok (.lload_n 3, 1) := by decide +kernel
theorem dX9_powerOf_31 : decode cX9_powerOf 31 = .ok (.invokestatic 51, 3) := by decide +kernel
theorem dX9_powerOf_34 : decode cX9_powerOf 34 = .ok (.lstore 5, 2) := by decide +kernel
theorem dX9_powerOf_36 : decode cX9_powerOf 36 = .ok (.iinc 9 1, 3) := by decide +kernel
theorem dX9_powerOf_39 : decode cX9_powerOf 39 = .ok (.goto (-22), 3) := by decide +kernel
theorem dX9_powerOf_42 : decode cX9_powerOf 42 = .ok (.lload 5, 2) := by decide +kernel
theorem dX9_powerOf_44 : decode cX9_powerOf 44 = .ok (.lreturn, 1) := by decide +kernel
theorem dX9_isPrimeNow_0 : decode cX9_isPrimeNow 0 = .ok (.lload_n 0, 1) := by decide +kernel
theorem dX9_isPrimeNow_1 : decode cX9_isPrimeNow 1 = .ok (.invokestatic 41, 3) := by decide +kernel
theorem dX9_isPrimeNow_4 : decode cX9_isPrimeNow 4 = .ok (.iconst 1, 1) := by decide +kernel
theorem dX9_isPrimeNow_5 : decode cX9_isPrimeNow 5 = .ok (.if_icmp .ge 5, 3) := by decide +kernel
theorem dX9_isPrimeNow_8 : decode cX9_isPrimeNow 8 = .ok (.iconst 0, 1) := by decide +kernel
theorem dX9_isPrimeNow_9 : decode cX9_isPrimeNow 9 = .ok (.ireturn, 1) := by decide +kernel
theorem dX9_isPrimeNow_10 : decode cX9_isPrimeNow 10 = .ok (.ldc2_w 54, 3) := by decide +kernel
theorem dX9_isPrimeNow_13 : decode cX9_isPrimeNow 13 = .ok (.lstore_n 2, 1) := by decide +kernel
theorem dX9_isPrimeNow_14 : decode cX9_isPrimeNow 14 = .ok (.iconst 2, 1) := by decide +kernel
theorem dX9_isPrimeNow_15 : decode cX9_isPrimeNow 15 = .ok (.lload_n 2, 1) := by decide +kernel
theorem dX9_isPrimeNow_16 : decode cX9_isPrimeNow 16 = .ok (.invokestatic 41, 3) := by decide +kernel
theorem dX9_isPrimeNow_19 : decode cX9_isPrimeNow 19 = .ok (.imul, 1) := by decide +kernel
theorem dX9_isPrimeNow_20 : decode cX9_isPrimeNow 20 = .ok (.lload_n 0, 1) := by decide +kernel
theorem dX9_isPrimeNow_21 : decode cX9_isPrimeNow 21 = .ok (.invokestatic 41, 3) := by decide +kernel
theorem dX9_isPrimeNow_24 : decode cX9_isPrimeNow 24 = .ok (.if_icmp .gt 22, 3) := by decide +kernel
theorem dX9_isPrimeNow_27 : decode cX9_isPrimeNow 27 = .ok (.lload_n 0, 1) := by decide +kernel
theorem dX9_isPrimeNow_28 : decode cX9_isPrimeNow 28 = .ok (.lload_n 2, 1) := by decide +kernel
theorem dX9_isPrimeNow_29 : decode cX9_isPrimeNow 29 = .ok (.invokestatic 51, 3) := by decide +kernel
theorem dX9_isPrimeNow_32 : decode cX9_isPrimeNow 32 = .ok (.lconst 0, 1) := by decide +kernel
theorem dX9_isPrimeNow_33 : decode cX9_isPrimeNow 33 = .ok (.lcmp, 1) := by decide +kernel
theorem dX9_isPrimeNow_34 : decode cX9_isPrimeNow 34 = .ok (.ifCond .ne 5, 3) := by decide +kernel
theorem dX9_isPrimeNow_37 : decode cX9_isPrimeNow 37 = .ok (.iconst 0, 1) := by decide +kernel
theorem dX9_isPrimeNow_38 : decode cX9_isPrimeNow 38 = .ok (.ireturn, 1) := by decide +kernel
theorem dX9_isPrimeNow_39 : decode cX9_isPrimeNow 39 = .ok (.lload_n 2, 1) := by decide +kernel
theorem dX9_isPrimeNow_40 : decode cX9_isPrimeNow 40 = .ok (.lconst 1, 1) := by decide +kernel
theorem dX9_isPrimeNow_41 : decode cX9_isPrimeNow 41 = .ok (.ladd, 1) := by decide +kernel
theorem dX9_isPrimeNow_42 : decode cX9_isPrimeNow 42 = .ok (.lstore_n 2, 1) := by decide +kernel
theorem dX9_isPrimeNow_43 : decode cX9_isPrimeNow 43 = .ok (.goto (-29), 3) := by decide +kernel
theorem dX9_isPrimeNow_46 : decode cX9_isPrimeNow 46 = .ok (.iconst 1, 1) := by decide +kernel
theorem dX9_isPrimeNow_47 : decode cX9_isPrimeNow 47 = .ok (.ireturn, 1) := by decide +kernel
theorem dX9_primesOf_0 : decode cX9_primesOf 0 = .ok (.iconst 0, 1) := by decide +kernel
theorem dX9_primesOf_1 : decode cX9_primesOf 1 = .ok (.istore_n 1, 1) := by decide +kernel
theorem dX9_primesOf_2 : decode cX9_primesOf 2 = .ok (.lconst 1, 1) := by decide +kernel
theorem dX9_primesOf_3 : decode cX9_primesOf 3 = .ok (.iload_n 0, 1) := by decide +kernel
theorem dX9_primesOf_4 : decode cX9_primesOf 4 = .ok (.lshl, 1) := by decide +kernel
theorem dX9_primesOf_5 : decode cX9_primesOf 5 = .ok (.lstore_n 2, 1) := by decide +kernel
theorem dX9_primesOf_6 : decode cX9_primesOf 6 = .ok (.lload_n 2, 1) := by decide +kernel
theorem dX9_primesOf_7 : decode cX9_primesOf 7 = .ok (.ldc2_w 54, 3) := by decide +kernel
theorem dX9_primesOf_10 : decode cX9_primesOf 10 = .ok (.iload_n 0, 1) := by decide +kernel
theorem dX9_primesOf_11 : decode cX9_primesOf 11 = .ok (.lshl, 1) := by decide +kernel
theorem dX9_primesOf_12 : decode cX9_primesOf 12 = .ok (.lcmp, 1) := by decide +kernel
theorem dX9_primesOf_13 : decode cX9_primesOf 13 = .ok (.ifCond .ge 25, 3) := by decide +kernel
theorem dX9_primesOf_16 : decode cX9_primesOf 16 = .ok (.iload_n 1, 1) := by decide +kernel
theorem dX9_primesOf_17 : decode cX9_primesOf 17 = .ok (.lload_n 2, 1) := by decide +kernel
theorem dX9_primesOf_18 : decode cX9_primesOf 18 = .ok (.invokestatic 56, 3) := by decide +kernel
theorem dX9_primesOf_21 : decode cX9_primesOf 21 = .ok (.ifCond .eq 7, 3) := by decide +kernel
theorem dX9_primesOf_24 : decode cX9_primesOf 24 = .ok (.iconst 1, 1) := by decide +kernel
theorem dX9_primesOf_25 : decode cX9_primesOf 25 = .ok (.goto 4, 3) := by decide +kernel
theorem dX9_primesOf_28 : decode cX9_primesOf 28 = .ok (.iconst 0, 1) := by decide +kernel
theorem dX9_primesOf_29 : decode cX9_primesOf 29 = .ok (.iadd, 1) := by decide +kernel
theorem dX9_primesOf_30 : decode cX9_primesOf 30 = .ok (.istore_n 1, 1) := by decide +kernel
theorem dX9_primesOf_31 : decode cX9_primesOf 31 = .ok (.lload_n 2, 1) := by decide +kernel
theorem dX9_primesOf_32 : decode cX9_primesOf 32 = .ok (.lconst 1, 1) := by decide +kernel
theorem dX9_primesOf_33 : decode cX9_primesOf 33 = .ok (.ladd, 1) := by decide +kernel
theorem dX9_primesOf_34 : decode cX9_primesOf 34 = .ok (.lstore_n 2, 1) := by decide +kernel
theorem dX9_primesOf_35 : decode cX9_primesOf 35 = .ok (.goto (-29), 3) := by decide +kernel
theorem dX9_primesOf_38 : decode cX9_primesOf 38 = .ok (.iload_n 1, 1) := by decide +kernel
theorem dX9_primesOf_39 : decode cX9_primesOf 39 = .ok (.ireturn, 1) := by decide +kernel
theorem dX9_least_0 : decode cX9_least 0 = .ok (.ldc2_w 54, 3) := by decide +kernel
theorem dX9_least_3 : decode cX9_least 3 = .ok (.lstore_n 2, 1) := by decide +kernel
theorem dX9_least_4 : decode cX9_least 4 = .ok (.iconst 2, 1) := by decide +kernel
theorem dX9_least_5 : decode cX9_least 5 = .ok (.lload_n 2, 1) := by decide +kernel
theorem dX9_least_6 : decode cX9_least 6 = .ok (.invokestatic 41, 3) := by decide +kernel
theorem dX9_least_9 : decode cX9_least 9 = .ok (.imul, 1) := by decide +kernel
theorem dX9_least_10 : decode cX9_least 10 = .ok (.lload_n 0, 1) := by decide +kernel
theorem dX9_least_11 : decode cX9_least 11 = .ok (.invokestatic 41, 3) := by decide +kernel
theorem dX9_least_14 : decode cX9_least 14 = .ok (.if_icmp .gt 20, 3) := by decide +kernel
theorem dX9_least_17 : decode cX9_least 17 = .ok (.lload_n 0, 1) := by decide +kernel
theorem dX9_least_18 : decode cX9_least 18 = .ok (.lload_n 2, 1) := by decide +kernel
theorem dX9_least_19 : decode cX9_least 19 = .ok (.invokestatic 51, 3) := by decide +kernel
theorem dX9_least_22 : decode cX9_least 22 = .ok (.lconst 0, 1) := by decide +kernel
theorem dX9_least_23 : decode cX9_least 23 = .ok (.lcmp, 1) := by decide +kernel
theorem dX9_least_24 : decode cX9_least 24 = .ok (.ifCond .eq 10, 3) := by decide +kernel
theorem dX9_least_27 : decode cX9_least 27 = .ok (.lload_n 2, 1) := by decide +kernel
theorem dX9_least_28 : decode cX9_least 28 = .ok (.lconst 1, 1) := by decide +kernel
theorem dX9_least_29 : decode cX9_least 29 = .ok (.ladd, 1) := by decide +kernel
theorem dX9_least_30 : decode cX9_least 30 = .ok (.lstore_n 2, 1) := by decide +kernel
theorem dX9_least_31 : decode cX9_least 31 = .ok (.goto (-27), 3) := by decide +kernel
theorem dX9_least_34 : decode cX9_least 34 = .ok (.iconst 2, 1) := by decide +kernel
theorem dX9_least_35 : decode cX9_least 35 = .ok (.lload_n 2, 1) := by decide +kernel
theorem dX9_least_36 : decode cX9_least 36 = .ok (.invokestatic 41, 3) := by decide +kernel
theorem dX9_least_39 : decode cX9_least 39 = .ok (.imul, 1) := by decide +kernel
theorem dX9_least_40 : decode cX9_least 40 = .ok (.lload_n 0, 1) := by decide +kernel
theorem dX9_least_41 : decode cX9_least 41 = .ok (.invokestatic 41, 3) := by decide +kernel
theorem dX9_least_44 : decode cX9_least 44 = .ok (.if_icmp .gt 7, 3) := by decide +kernel
theorem dX9_least_47 : decode cX9_least 47 = .ok (.lload_n 2, 1) := by decide +kernel
theorem dX9_least_48 : decode cX9_least 48 = .ok (.goto 4, 3) := by decide +kernel
theorem dX9_least_51 : decode cX9_least 51 = .ok (.lload_n 0, 1) := by decide +kernel
theorem dX9_least_52 : decode cX9_least 52 = .ok (.lreturn, 1) := by decide +kernel
theorem dX9_isWheel_0 : decode cX9_isWheel 0 = .ok (.lload_n 0, 1) := by decide +kernel
theorem dX9_isWheel_1 : decode cX9_isWheel 1 = .ok (.invokestatic 41, 3) := by decide +kernel
theorem dX9_isWheel_4 : decode cX9_isWheel 4 = .ok (.iconst 1, 1) := by decide +kernel
theorem dX9_isWheel_5 : decode cX9_isWheel 5 = .ok (.if_icmp .lt 24, 3) := by decide +kernel
theorem dX9_isWheel_8 : decode cX9_isWheel 8 = .ok (.lload_n 0, 1) := by decide +kernel
theorem dX9_isWheel_9 : decode cX9_isWheel 9 = .ok (.invokestatic 41, 3) := by decide +kernel
theorem dX9_isWheel_12 : decode cX9_isWheel 12 = .ok (.bipush 8, 2) := by decide +kernel
theorem dX9_isWheel_14 : decode cX9_isWheel 14 = .ok (.if_icmp .gt 15, 3) := by decide +kernel
theorem dX9_isWheel_17 : decode cX9_isWheel 17 = .ok (.lload_n 0, 1) := by decide +kernel
theorem dX9_isWheel_18 : decode cX9_isWheel 18 = .ok (.lconst 1, 1) := by decide +kernel
theorem dX9_isWheel_19 : decode cX9_isWheel 19 = .ok (.land, 1) := by decide +kernel
theorem dX9_isWheel_20 : decode cX9_isWheel 20 = .ok (.lconst 1, 1) := by decide +kernel
theorem dX9_isWheel_21 : decode cX9_isWheel 21 = .ok (.lcmp, 1) := by decide +kernel
theorem dX9_isWheel_22 : decode cX9_isWheel 22 = .ok (.ifCond .ne 7, 3) := by decide +kernel
theorem dX9_isWheel_25 : decode cX9_isWheel 25 = .ok (.iconst 1, 1) := by decide +kernel
theorem dX9_isWheel_26 : decode cX9_isWheel 26 = .ok (.goto 4, 3) := by decide +kernel
theorem dX9_isWheel_29 : decode cX9_isWheel 29 = .ok (.iconst 0, 1) := by decide +kernel
theorem dX9_isWheel_30 : decode cX9_isWheel 30 = .ok (.ireturn, 1) := by decide +kernel
theorem dX9_periodOf_0 : decode cX9_periodOf 0 = .ok (.iconst 1, 1) := by decide +kernel
theorem dX9_periodOf_1 : decode cX9_periodOf 1 = .ok (.istore_n 2, 1) := by decide +kernel
theorem dX9_periodOf_2 : decode cX9_periodOf 2 = .ok (.lconst 1, 1) := by decide +kernel
theorem dX9_periodOf_3 : decode cX9_periodOf 3 = .ok (.lload_n 0, 1) := by decide +kernel
theorem dX9_periodOf_4 : decode cX9_periodOf 4 = .ok (.invokestatic 51, 3) := by decide +kernel
theorem dX9_periodOf_7 : decode cX9_periodOf 7 = .ok (.lstore_n 3, 1) := by decide +kernel
theorem dX9_periodOf_8 : decode cX9_periodOf 8 = .ok (.ldc2_w 54, 3) := by decide +kernel
theorem dX9_periodOf_11 : decode cX9_periodOf 11 = .ok (.lload_n 0, 1) := by decide +kernel
theorem dX9_periodOf_12 : decode cX9_periodOf 12 = .ok (.invokestatic 51, 3) := by decide +kernel
theorem dX9_periodOf_15 : decode cX9_periodOf 15 = .ok (.lstore 5, 2) := by decide +kernel
theorem dX9_periodOf_17 : decode cX9_periodOf 17 = .ok (.lload 5, 2) := by decide +kernel
theorem dX9_periodOf_19 : decode cX9_periodOf 19 = .ok (.lload_n 3, 1) := by decide +kernel
theorem dX9_periodOf_20 : decode cX9_periodOf 20 = .ok (.lcmp, 1) := by decide +kernel
theorem dX9_periodOf_21 : decode cX9_periodOf 21 = .ok (.ifCond .eq 19, 3) := by decide +kernel
theorem dX9_periodOf_24 : decode cX9_periodOf 24 = .ok (.iinc 2 1, 3) := by decide +kernel
theorem dX9_periodOf_27 : decode cX9_periodOf 27 = .ok (.lload 5, 2) := by decide +kernel
theorem dX9_periodOf_29 : decode cX9_periodOf 29 = .ok (.iconst 1, 1) := by decide +kernel
theorem dX9_periodOf_30 : decode cX9_periodOf 30 = .ok (.lshl, 1) := by decide +kernel
theorem dX9_periodOf_31 : decode cX9_periodOf 31 = .ok (.lload_n 0, 1) := by decide +kernel
theorem dX9_periodOf_32 : decode cX9_periodOf 32 = .ok (.invokestatic 51, 3) := by decide +kernel
theorem dX9_periodOf_35 : decode cX9_periodOf 35 = .ok (.lstore 5, 2) := by decide +kernel
theorem dX9_periodOf_37 : decode cX9_periodOf 37 = .ok (.goto (-20), 3) := by decide +kernel
theorem dX9_periodOf_40 : decode cX9_periodOf 40 = .ok (.iload_n 2, 1) := by decide +kernel
theorem dX9_periodOf_41 : decode cX9_periodOf 41 = .ok (.ireturn, 1) := by decide +kernel
theorem dX9_next_0 : decode cX9_next 0 = .ok (.aload_n 0, 1) := by decide +kernel
theorem dX9_next_1 : decode cX9_next 1 = .ok (.getfield 18, 3) := by decide +kernel
theorem dX9_next_4 : decode cX9_next 4 = .ok (.invokestatic 41, 3) := by decide +kernel
theorem dX9_next_7 : decode cX9_next 7 = .ok (.istore_n 2, 1) := by decide +kernel
theorem dX9_next_8 : decode cX9_next 8 = .ok (.iload_n 1, 1) := by decide +kernel
theorem dX9_next_9 : decode cX9_next 9 = .ok (.i2l, 1) := by decide +kernel
theorem dX9_next_10 : decode cX9_next 10 = .ok (.aload_n 0, 1) := by decide +kernel
theorem dX9_next_11 : decode cX9_next 11 = .ok (.getfield 18, 3) := by decide +kernel
theorem dX9_next_14 : decode cX9_next 14 = .ok (.land, 1) := by decide +kernel
theorem dX9_next_15 : decode cX9_next 15 = .ok (.lconst 1, 1) := by decide +kernel
theorem dX9_next_16 : decode cX9_next 16 = .ok (.iload_n 2, 1) := by decide +kernel
theorem dX9_next_17 : decode cX9_next 17 = .ok (.lshl, 1) := by decide +kernel
theorem dX9_next_18 : decode cX9_next 18 = .ok (.lconst 1, 1) := by decide +kernel
theorem dX9_next_19 : decode cX9_next 19 = .ok (.lsub, 1) := by decide +kernel
theorem dX9_next_20 : decode cX9_next 20 = .ok (.land, 1) := by decide +kernel
theorem dX9_next_21 : decode cX9_next 21 = .ok (.invokestatic 60, 3) := by decide +kernel
theorem dX9_next_24 : decode cX9_next 24 = .ok (.iconst 2, 1) := by decide +kernel
theorem dX9_next_25 : decode cX9_next 25 = .ok (.irem, 1) := by decide +kernel
theorem dX9_next_26 : decode cX9_next 26 = .ok (.istore_n 3, 1) := by decide +kernel
theorem dX9_next_27 : decode cX9_next 27 = .ok (.iload_n 1, 1) := by decide +kernel
theorem dX9_next_28 : decode cX9_next 28 = .ok (.iconst 1, 1) := by decide +kernel
theorem dX9_next_29 : decode cX9_next 29 = .ok (.ishr, 1) := by decide +kernel
theorem dX9_next_30 : decode cX9_next 30 = .ok (.iload_n 3, 1) := by decide +kernel
theorem dX9_next_31 : decode cX9_next 31 = .ok (.iload_n 2, 1) := by decide +kernel
theorem dX9_next_32 : decode cX9_next 32 = .ok (.iconst 1, 1) := by decide +kernel
theorem dX9_next_33 : decode cX9_next 33 = .ok (.isub, 1) := by decide +kernel
theorem dX9_next_34 : decode cX9_next 34 = .ok (.ishl, 1) := by decide +kernel
theorem dX9_next_35 : decode cX9_next 35 = .ok (.ior, 1) := by decide +kernel
theorem dX9_next_36 : decode cX9_next 36 = .ok (.ireturn, 1) := by decide +kernel
theorem dX9_isForm_0 : decode cX9_isForm 0 = .ok (.iload_n 0, 1) := by decide +kernel
theorem dX9_isForm_1 : decode cX9_isForm 1 = .ok (.ifCond .lt 13, 3) := by decide +kernel
theorem dX9_isForm_4 : decode cX9_isForm 4 = .ok (.iload_n 0, 1) := by decide +kernel
theorem dX9_isForm_5 : decode cX9_isForm 5 = .ok (.bipush 6, 2) := by decide +kernel
theorem dX9_isForm_7 : decode cX9_isForm 7 = .ok (.if_icmp .ge 7, 3) := by decide +kernel
theorem dX9_isForm_10 : decode cX9_isForm 10 = .ok (.iconst 1, 1) := by decide +kernel
theorem dX9_isForm_11 : decode cX9_isForm 11 = .ok (.goto 4, 3) := by decide +kernel
theorem dX9_isForm_14 : decode cX9_isForm 14 = .ok (.iconst 0, 1) := by decide +kernel
theorem dX9_isForm_15 : decode cX9_isForm 15 = .ok (.ireturn, 1) := by decide +kernel
theorem dX9_isPlace_0 : decode cX9_isPlace 0 = .ok (.iload_n 0, 1) := by decide +kernel
theorem dX9_isPlace_1 : decode cX9_isPlace 1 = .ok (.ifCond .lt 13, 3) := by decide +kernel
theorem dX9_isPlace_4 : decode cX9_isPlace 4 = .ok (.iload_n 0, 1) := by decide +kernel
theorem dX9_isPlace_5 : decode cX9_isPlace 5 = .ok (.bipush 40, 2) := by decide +kernel
theorem dX9_isPlace_7 : decode cX9_isPlace 7 = .ok (.if_icmp .ge 7, 3) := by decide +kernel
theorem dX9_isPlace_10 : decode cX9_isPlace 10 = .ok (.iconst 1, 1) := by decide +kernel
theorem dX9_isPlace_11 : decode cX9_isPlace 11 = .ok (.goto 4, 3) := by decide +kernel
theorem dX9_isPlace_14 : decode cX9_isPlace 14 = .ok (.iconst 0, 1) := by decide +kernel
theorem dX9_isPlace_15 : decode cX9_isPlace 15 = .ok (.ireturn, 1) := by decide +kernel
theorem dX9_isThrown_0 : decode cX9_isThrown 0 = .ok (.aload_n 0, 1) := by decide +kernel
theorem dX9_isThrown_1 : decode cX9_isThrown 1 = .ok (.iload_n 1, 1) := by decide +kernel
theorem dX9_isThrown_2 : decode cX9_isThrown 2 = .ok (.ifCond .eq 7, 3) := by decide +kernel
theorem dX9_isThrown_5 : decode cX9_isThrown 5 = .ok (.iconst 1, 1) := by decide +kernel
theorem dX9_isThrown_6 : decode cX9_isThrown 6 = .ok (.goto 12, 3) := by decide +kernel
theorem dX9_isThrown_9 : decode cX9_isThrown 9 = .ok (.iload_n 2, 1) := by decide +kernel
theorem dX9_isThrown_10 : decode cX9_isThrown 10 = .ok (.ifCond .eq 7, 3) := by decide +kernel
theorem dX9_isThrown_13 : decode cX9_isThrown 13 = .ok (.iconst 2, 1) := by decide +kernel
theorem dX9_isThrown_14 : decode cX9_isThrown 14 = .ok (.goto 4, 3) := by decide +kernel
theorem dX9_isThrown_17 : decode cX9_isThrown 17 = .ok (.iconst 0, 1) := by decide +kernel
theorem dX9_isThrown_18 : decode cX9_isThrown 18 = .ok (.putfield 26, 3) := by decide +kernel
theorem dX9_isThrown_21 : decode cX9_isThrown 21 = .ok (.aload_n 0, 1) := by decide +kernel
theorem dX9_isThrown_22 : decode cX9_isThrown 22 = .ok (.getfield 26, 3) := by decide +kernel
theorem dX9_isThrown_25 : decode cX9_isThrown 25 = .ok (.ifCond .le 7, 3) := by decide +kernel
theorem dX9_isThrown_28 : decode cX9_isThrown 28 = .ok (.iconst 1, 1) := by decide +kernel
theorem dX9_isThrown_29 : decode cX9_isThrown 29 = .ok (.goto 4, 3) := by decide +kernel
theorem dX9_isThrown_32 : decode cX9_isThrown 32 = .ok (.iconst 0, 1) := by decide +kernel
theorem dX9_isThrown_33 : decode cX9_isThrown 33 = .ok (.ireturn, 1) := by decide +kernel
theorem dX9_isThrown__0 : decode cX9_isThrown_ 0 = .ok (.aload_n 0, 1) := by decide +kernel
theorem dX9_isThrown__1 : decode cX9_isThrown_ 1 = .ok (.iload_n 1, 1) := by decide +kernel
theorem dX9_isThrown__2 : decode cX9_isThrown_ 2 = .ok (.iconst 0, 1) := by decide +kernel
theorem dX9_isThrown__3 : decode cX9_isThrown_ 3 = .ok (.invokevirtual 63, 3) := by decide +kernel
theorem dX9_isThrown__6 : decode cX9_isThrown_ 6 = .ok (.ireturn, 1) := by decide +kernel
theorem dX9_areNot_0 : decode cX9_areNot 0 = .ok (.aload_n 0, 1) := by decide +kernel
theorem dX9_areNot_1 : decode cX9_areNot 1 = .ok (.iload_n 1, 1) := by decide +kernel
theorem dX9_areNot_2 : decode cX9_areNot 2 = .ok (.invokestatic 67, 3) := by decide +kernel
theorem dX9_areNot_5 : decode cX9_areNot 5 = .ok (.ifCond .eq 17, 3) := by decide +kernel
theorem dX9_areNot_8 : decode cX9_areNot 8 = .ok (.iload_n 2, 1) := by decide +kernel
theorem dX9_areNot_9 : decode cX9_areNot 9 = .ok (.invokestatic 67, 3) := by decide +kernel
theorem dX9_areNot_12 : decode cX9_areNot 12 = .ok (.ifCond .eq 10, 3) := by decide +kernel
theorem dX9_areNot_15 : decode cX9_areNot 15 = .ok (.iload_n 3, 1) := by decide +kernel
theorem dX9_areNot_16 : decode cX9_areNot 16 = .ok (.invokestatic 67, 3) := by decide +kernel
theorem dX9_areNot_19 : decode cX9_areNot 19 = .ok (.ifCond .ne 7, 3) := by decide +kernel
theorem dX9_areNot_22 : decode cX9_areNot 22 = .ok (.iconst 1, 1) := by decide +kernel
theorem dX9_areNot_23 : decode cX9_areNot 23 = .ok (.goto 4, 3) := by decide +kernel
theorem dX9_areNot_26 : decode cX9_areNot 26 = .ok (.iconst 0, 1) := by decide +kernel
theorem dX9_areNot_27 : decode cX9_areNot 27 = .ok (.invokevirtual 71, 3) := by decide +kernel
theorem dX9_areNot_30 : decode cX9_areNot 30 = .ok (.ireturn, 1) := by decide +kernel
theorem dX9_done_0 : decode cX9_done 0 = .ok (.aload_n 0, 1) := by decide +kernel
theorem dX9_done_1 : decode cX9_done 1 = .ok (.dup, 1) := by decide +kernel
theorem dX9_done_2 : decode cX9_done 2 = .ok (.getfield 74, 3) := by decide +kernel
theorem dX9_done_5 : decode cX9_done 5 = .ok (.iconst 1, 1) := by decide +kernel
theorem dX9_done_6 : decode cX9_done 6 = .ok (.iadd, 1) := by decide +kernel
theorem dX9_done_7 : decode cX9_done 7 = .ok (.putfield 74, 3) := by decide +kernel
theorem dX9_done_10 : decode cX9_done 10 = .ok (.iload_n 1, 1) := by decide +kernel
theorem dX9_done_11 : decode cX9_done 11 = .ok (.ireturn, 1) := by decide +kernel
theorem dX9_no_0 : decode cX9_no 0 = .ok (.aload_n 0, 1) := by decide +kernel
theorem dX9_no_1 : decode cX9_no 1 = .ok (.dup, 1) := by decide +kernel
theorem dX9_no_2 : decode cX9_no 2 = .ok (.getfield 77, 3) := by decide +kernel
theorem dX9_no_5 : decode cX9_no 5 = .ok (.iconst 1, 1) := by decide +kernel
theorem dX9_no_6 : decode cX9_no 6 = .ok (.iadd, 1) := by decide +kernel
theorem dX9_no_7 : decode cX9_no 7 = .ok (.putfield 77, 3) := by decide +kernel
theorem dX9_no_10 : decode cX9_no 10 = .ok (.bipush (-9), 2) := by decide +kernel
theorem dX9_no_12 : decode cX9_no 12 = .ok (.ireturn, 1) := by decide +kernel
theorem dX9_give_0 : decode cX9_give 0 = .ok (.aload_n 0, 1) := by decide +kernel
theorem dX9_give_1 : decode cX9_give 1 = .ok (.getfield 9, 3) := by decide +kernel
theorem dX9_give_4 : decode cX9_give 4 = .ok (.iload_n 1, 1) := by decide +kernel
theorem dX9_give_5 : decode cX9_give 5 = .ok (.lload_n 2, 1) := by decide +kernel
theorem dX9_give_6 : decode cX9_give 6 = .ok (.lastore, 1) := by decide +kernel
theorem dX9_give_7 : decode cX9_give 7 = .ok (.aload_n 0, 1) := by decide +kernel
theorem dX9_give_8 : decode cX9_give 8 = .ok (.lload_n 2, 1) := by decide +kernel
theorem dX9_give_9 : decode cX9_give 9 = .ok (.invokestatic 41, 3) := by decide +kernel
theorem dX9_give_12 : decode cX9_give 12 = .ok (.invokevirtual 80, 3) := by decide +kernel
theorem dX9_give_15 : decode cX9_give 15 = .ok (.ireturn, 1) := by decide +kernel
theorem dX9_set_0 : decode cX9_set 0 = .ok (.aload_n 0, 1) := by decide +kernel
theorem dX9_set_1 : decode cX9_set 1 = .ok (.iload_n 1, 1) := by decide +kernel
theorem dX9_set_2 : decode cX9_set 2 = .ok (.invokestatic 67, 3) := by decide +kernel
theorem dX9_set_5 : decode cX9_set 5 = .ok (.ifCond .ne 7, 3) := by decide +kernel
theorem dX9_set_8 : decode cX9_set 8 = .ok (.iconst 1, 1) := by decide +kernel
theorem dX9_set_9 : decode cX9_set 9 = .ok (.goto 4, 3) := by decide +kernel
theorem dX9_set_12 : decode cX9_set 12 = .ok (.iconst 0, 1) := by decide +kernel
theorem dX9_set_13 : decode cX9_set 13 = .ok (.iload_n 2, 1) := by decide +kernel
theorem dX9_set_14 : decode cX9_set 14 = .ok (.ifCond .ge 7, 3) := by decide +kernel
theorem dX9_set_17 : decode cX9_set 17 = .ok (.iconst 1, 1) := by decide +kernel
theorem dX9_set_18 : decode cX9_set 18 = .ok (.goto 4, 3) := by decide +kernel
theorem dX9_set_21 : decode cX9_set 21 = .ok (.iconst 0, 1) := by decide +kernel
theorem dX9_set_22 : decode cX9_set 22 = .ok (.invokevirtual 63, 3) := by decide +kernel
theorem dX9_set_25 : decode cX9_set 25 = .ok (.ifCond .eq 5, 3) := by decide +kernel
theorem dX9_set_28 : decode cX9_set 28 = .ok (.iconst 0, 1) := by decide +kernel
theorem dX9_set_29 : decode cX9_set 29 = .ok (.ireturn, 1) := by decide +kernel
theorem dX9_set_30 : decode cX9_set 30 = .ok (.aload_n 0, 1) := by decide +kernel
theorem dX9_set_31 : decode cX9_set 31 = .ok (.getfield 9, 3) := by decide +kernel
theorem dX9_set_34 : decode cX9_set 34 = .ok (.iload_n 1, 1) := by decide +kernel
theorem dX9_set_35 : decode cX9_set 35 = .ok (.laload, 1) := by decide +kernel
theorem dX9_set_36 : decode cX9_set 36 = .ok (.invokestatic 41, 3) := by decide +kernel
theorem dX9_set_39 : decode cX9_set 39 = .ok (.istore_n 3, 1) := by decide +kernel
theorem dX9_set_40 : decode cX9_set 40 = .ok (.aload_n 0, 1) := by decide +kernel
theorem dX9_set_41 : decode cX9_set 41 = .ok (.getfield 9, 3) := by decide +kernel
theorem dX9_set_44 : decode cX9_set 44 = .ok (.iload_n 1, 1) := by decide +kernel
theorem dX9_set_45 : decode cX9_set 45 = .ok (.iload_n 2, 1) := by decide +kernel
theorem dX9_set_46 : decode cX9_set 46 = .ok (.i2l, 1) := by decide +kernel
theorem dX9_set_47 : decode cX9_set 47 = .ok (.lastore, 1) := by decide +kernel
theorem dX9_set_48 : decode cX9_set 48 = .ok (.aload_n 0, 1) := by decide +kernel
theorem dX9_set_49 : decode cX9_set 49 = .ok (.iload_n 3, 1) := by decide +kernel
theorem dX9_set_50 : decode cX9_set 50 = .ok (.invokevirtual 80, 3) := by decide +kernel
theorem dX9_set_53 : decode cX9_set 53 = .ok (.ireturn, 1) := by decide +kernel
theorem dX9_digit_0 : decode cX9_digit 0 = .ok (.aload_n 0, 1) := by decide +kernel
theorem dX9_digit_1 : decode cX9_digit 1 = .ok (.iload_n 1, 1) := by decide +kernel
theorem dX9_digit_2 : decode cX9_digit 2 = .ok (.invokestatic 67, 3) := by decide +kernel
theorem dX9_digit_5 : decode cX9_digit 5 = .ok (.ifCond .eq 10, 3) := by decide +kernel
theorem dX9_digit_8 : decode cX9_digit 8 = .ok (.iload_n 2, 1) := by decide +kernel
theorem dX9_digit_9 : decode cX9_digit 9 = .ok (.invokestatic 84, 3) := by decide +kernel
theorem dX9_digit_12 : decode cX9_digit 12 = .ok (.ifCond .ne 7, 3) := by decide +kernel
theorem dX9_digit_15 : decode cX9_digit 15 = .ok (.iconst 1, 1) := by decide +kernel
theorem dX9_digit_16 : decode cX9_digit 16 = .ok (.goto 4, 3) := by decide +kernel
theorem dX9_digit_19 : decode cX9_digit 19 = .ok (.iconst 0, 1) := by decide +kernel
theorem dX9_digit_20 : decode cX9_digit 20 = .ok (.iload_n 3, 1) := by decide +kernel
theorem dX9_digit_21 : decode cX9_digit 21 = .ok (.ifCond .lt 8, 3) := by decide +kernel
theorem dX9_digit_24 : decode cX9_digit 24 = .ok (.iload_n 3, 1) := by decide +kernel
theorem dX9_digit_25 : decode cX9_digit 25 = .ok (.iconst 2, 1) := by decide +kernel
theorem dX9_digit_26 : decode cX9_digit 26 = .ok (.if_icmp .le 7, 3) := by decide +kernel
theorem dX9_digit_29 : decode cX9_digit 29 = .ok (.iconst 1, 1) := by decide +kernel
theorem dX9_digit_30 : decode cX9_digit 30 = .ok (.goto 4, 3) := by decide +kernel
theorem dX9_digit_33 : decode cX9_digit 33 = .ok (.iconst 0, 1) := by decide +kernel
theorem dX9_digit_34 : decode cX9_digit 34 = .ok (.invokevirtual 63, 3) := by decide +kernel
theorem dX9_digit_37 : decode cX9_digit 37 = .ok (.ifCond .eq 5, 3) := by decide +kernel
theorem dX9_digit_40 : decode cX9_digit 40 = .ok (.iconst 0, 1) := by decide +kernel
theorem dX9_digit_41 : decode cX9_digit 41 = .ok (.ireturn, 1) := by decide +kernel
theorem dX9_digit_42 : decode cX9_digit 42 = .ok (.aload_n 0, 1) := by decide +kernel
theorem dX9_digit_43 : decode cX9_digit 43 = .ok (.getfield 9, 3) := by decide +kernel
theorem dX9_digit_46 : decode cX9_digit 46 = .ok (.iload_n 1, 1) := by decide +kernel
theorem dX9_digit_47 : decode cX9_digit 47 = .ok (.laload, 1) := by decide +kernel
theorem dX9_digit_48 : decode cX9_digit 48 = .ok (.lstore 4, 2) := by decide +kernel
theorem dX9_digit_50 : decode cX9_digit 50 = .ok (.lconst 1, 1) := by decide +kernel
theorem dX9_digit_51 : decode cX9_digit 51 = .ok (.iload_n 2, 1) := by decide +kernel
theorem dX9_digit_52 : decode cX9_digit 52 = .ok (.lshl, 1) := by decide +kernel
theorem dX9_digit_53 : decode cX9_digit 53 = .ok (.lstore 6, 2) := by decide +kernel
theorem dX9_digit_55 : decode cX9_digit 55 = .ok (.aload_n 0, 1) := by decide +kernel
theorem dX9_digit_56 : decode cX9_digit 56 = .ok (.getfield 9, 3) := by decide +kernel
theorem dX9_digit_59 : decode cX9_digit 59 = .ok (.iload_n 1, 1) := by decide +kernel
theorem dX9_digit_60 : decode cX9_digit 60 = .ok (.iload_n 3, 1) := by decide +kernel
theorem dX9_digit_61 : decode cX9_digit 61 = .ok (.ifCond .ne 15, 3) := by decide +kernel
theorem dX9_digit_64 : decode cX9_digit 64 = .ok (.lload 4, 2) := by decide +kernel
theorem dX9_digit_66 : decode cX9_digit 66 = .ok (.lload 6, 2) := by decide +kernel
theorem dX9_digit_68 : decode cX9_digit 68 = .ok (.ldc2_w 87, 3) := by decide +kernel
theorem dX9_digit_71 : decode cX9_digit 71 = .ok (.lxor, 1) := by decide +kernel
theorem dX9_digit_72 : decode cX9_digit 72 = .ok (.land, 1) := by decide +kernel
theorem dX9_digit_73 : decode cX9_digit 73 = .ok (.goto 21, 3) := by decide +kernel
theorem dX9_digit_76 : decode cX9_digit 76 = .ok (.iload_n 3, 1) := by decide +kernel
theorem dX9_digit_77 : decode cX9_digit 77 = .ok (.iconst 1, 1) := by decide +kernel
theorem dX9_digit_78 : decode cX9_digit 78 = .ok (.if_icmp .ne 11, 3) := by decide +kernel
theorem dX9_digit_81 : decode cX9_digit 81 = .ok (.lload 4, 2) := by decide +kernel
theorem dX9_digit_83 : decode cX9_digit 83 = .ok (.lload 6, 2) := by decide +kernel
theorem dX9_digit_85 : decode cX9_digit 85 = .ok (.lor, 1) := by decide +kernel
theorem dX9_digit_86 : decode cX9_digit 86 = .ok (.goto 8, 3) := by decide +kernel
theorem dX9_digit_89 : decode cX9_digit 89 = .ok (.lload 4, 2) := by decide +kernel
theorem dX9_digit_91 : decode cX9_digit 91 = .ok (.lload 6, 2) := by decide +kernel
theorem dX9_digit_93 : decode cX9_digit 93 = .ok (.lxor, 1) := by decide +kernel
theorem dX9_digit_94 : decode cX9_digit 94 = .ok (.lastore, 1) := by decide +kernel
theorem dX9_digit_95 : decode cX9_digit 95 = .ok (.aload_n 0, 1) := by decide +kernel
theorem dX9_digit_96 : decode cX9_digit 96 = .ok (.aload_n 0, 1) := by decide +kernel
theorem dX9_digit_97 : decode cX9_digit 97 = .ok (.getfield 9, 3) := by decide +kernel
theorem dX9_digit_100 : decode cX9_digit 100 = .ok (.iload_n 1, 1) := by decide +kernel
theorem dX9_digit_101 : decode cX9_digit 101 = .ok (.laload, 1) := by decide +kernel
theorem dX9_digit_102 : decode cX9_digit 102 = .ok (.lload 4, 2) := by decide +kernel
theorem dX9_digit_104 : decode cX9_digit 104 = .ok (.lcmp, 1) := by decide +kernel
theorem dX9_digit_105 : decode cX9_digit 105 = .ok (.ifCond .ne 7, 3) := by decide +kernel
theorem dX9_digit_108 : decode cX9_digit 108 = .ok (.iconst 0, 1) := by decide +kernel
theorem dX9_digit_109 : decode cX9_digit 109 = .ok (.goto 4, 3) := by decide +kernel
theorem dX9_digit_112 : decode cX9_digit 112 = .ok (.iconst 1, 1) := by decide +kernel
theorem dX9_digit_113 : decode cX9_digit 113 = .ok (.invokevirtual 80, 3) := by decide +kernel
theorem dX9_digit_116 : decode cX9_digit 116 = .ok (.ireturn, 1) := by decide +kernel
theorem dX9_run_0 : decode cX9_run 0 = .ok (.aload_n 0, 1) := by decide +kernel
theorem dX9_run_1 : decode cX9_run 1 = .ok (.iload_n 1, 1) := by decide +kernel
theorem dX9_run_2 : decode cX9_run 2 = .ok (.invokestatic 67, 3) := by decide +kernel
theorem dX9_run_5 : decode cX9_run 5 = .ok (.ifCond .ne 7, 3) := by decide +kernel
theorem dX9_run_8 : decode cX9_run 8 = .ok (.iconst 1, 1) := by decide +kernel
theorem dX9_run_9 : decode cX9_run 9 = .ok (.goto 4, 3) := by decide +kernel
theorem dX9_run_12 : decode cX9_run 12 = .ok (.iconst 0, 1) := by decide +kernel
theorem dX9_run_13 : decode cX9_run 13 = .ok (.iload_n 2, 1) := by decide +kernel
theorem dX9_run_14 : decode cX9_run 14 = .ok (.ifCond .lt 14, 3) := by decide +kernel
theorem dX9_run_17 : decode cX9_run 17 = .ok (.iload_n 2, 1) := by decide +kernel
theorem dX9_run_18 : decode cX9_run 18 = .ok (.iload_n 3, 1) := by decide +kernel
theorem dX9_run_19 : decode cX9_run 19 = .ok (.if_icmp .gt 9, 3) := by decide +kernel
theorem dX9_run_22 : decode cX9_run 22 = .ok (.iload_n 3, 1) := by decide +kernel
theorem dX9_run_23 : decode cX9_run 23 = .ok (.bipush 40, 2) := by decide +kernel
theorem dX9_run_25 : decode cX9_run 25 = .ok (.if_icmp .le 7, 3) := by decide +kernel
theorem dX9_run_28 : decode cX9_run 28 = .ok (.iconst 1, 1) := by decide +kernel
theorem dX9_run_29 : decode cX9_run 29 = .ok (.goto 4, 3) := by decide +kernel
theorem dX9_run_32 : decode cX9_run 32 = .ok (.iconst 0, 1) := by decide +kernel
theorem dX9_run_33 : decode cX9_run 33 = .ok (.invokevirtual 63, 3) := by decide +kernel
theorem dX9_run_36 : decode cX9_run 36 = .ok (.ifCond .eq 5, 3) := by decide +kernel
theorem dX9_run_39 : decode cX9_run 39 = .ok (.iconst 0, 1) := by decide +kernel
theorem dX9_run_40 : decode cX9_run 40 = .ok (.ireturn, 1) := by decide +kernel
theorem dX9_run_41 : decode cX9_run 41 = .ok (.iload_n 2, 1) := by decide +kernel
theorem dX9_run_42 : decode cX9_run 42 = .ok (.istore 4, 2) := by decide +kernel
theorem dX9_run_44 : decode cX9_run 44 = .ok (.iload 4, 2) := by decide +kernel
theorem dX9_run_46 : decode cX9_run 46 = .ok (.iload_n 3, 1) := by decide +kernel
theorem dX9_run_47 : decode cX9_run 47 = .ok (.if_icmp .ge 22, 3) := by decide +kernel
theorem dX9_run_50 : decode cX9_run 50 = .ok (.aload_n 0, 1) := by decide +kernel
theorem dX9_run_51 : decode cX9_run 51 = .ok (.getfield 9, 3) := by decide +kernel
theorem dX9_run_54 : decode cX9_run 54 = .ok (.iload_n 1, 1) := by decide +kernel
theorem dX9_run_55 : decode cX9_run 55 = .ok (.dup2, 1) := by decide +kernel
theorem dX9_run_56 : decode cX9_run 56 = .ok (.laload, 1) := by decide +kernel
theorem dX9_run_57 : decode cX9_run 57 = .ok (.lconst 1, 1) := by decide +kernel
theorem dX9_run_58 : decode cX9_run 58 = .ok (.iload 4, 2) := by decide +kernel
theorem dX9_run_60 : decode cX9_run 60 = .ok (.lshl, 1) := by decide +kernel
theorem dX9_run_61 : decode cX9_run 61 = .ok (.lxor, 1) := by decide +kernel
theorem dX9_run_62 : decode cX9_run 62 = .ok (.lastore, 1) := by decide +kernel
theorem dX9_run_63 : decode cX9_run 63 = .ok (.iinc 4 1, 3) := by decide +kernel
theorem dX9_run_66 : decode cX9_run 66 = .ok (.goto (-22), 3) := by decide +kernel
theorem dX9_run_69 : decode cX9_run 69 = .ok (.aload_n 0, 1) := by decide +kernel
theorem dX9_run_70 : decode cX9_run 70 = .ok (.aload_n 0, 1) := by decide +kernel
theorem dX9_run_71 : decode cX9_run 71 = .ok (.getfield 9, 3) := by decide +kernel
theorem dX9_run_74 : decode cX9_run 74 = .ok (.iload_n 1, 1) := by decide +kernel
theorem dX9_run_75 : decode cX9_run 75 = .ok (.laload, 1) := by decide +kernel
theorem dX9_run_76 : decode cX9_run 76 = .ok (.invokestatic 60, 3) := by decide +kernel
theorem dX9_run_79 : decode cX9_run 79 = .ok (.invokevirtual 80, 3) := by decide +kernel
theorem dX9_run_82 : decode cX9_run 82 = .ok (.ireturn, 1) := by decide +kernel
theorem dX9_copy_0 : decode cX9_copy 0 = .ok (.aload_n 0, 1) := by decide +kernel
theorem dX9_copy_1 : decode cX9_copy 1 = .ok (.iload_n 1, 1) := by decide +kernel
theorem dX9_copy_2 : decode cX9_copy 2 = .ok (.invokestatic 67, 3) := by decide +kernel
theorem dX9_copy_5 : decode cX9_copy 5 = .ok (.ifCond .eq 10, 3) := by decide +kernel
theorem dX9_copy_8 : decode cX9_copy 8 = .ok (.iload_n 2, 1) := by decide +kernel
theorem dX9_copy_9 : decode cX9_copy 9 = .ok (.invokestatic 67, 3) := by decide +kernel
theorem dX9_copy_12 : decode cX9_copy 12 = .ok (.ifCond .ne 7, 3) := by decide +kernel
theorem dX9_copy_15 : decode cX9_copy 15 = .ok (.iconst 1, 1) := by decide +kernel
theorem dX9_copy_16 : decode cX9_copy 16 = .ok (.goto 4, 3) := by decide +kernel
theorem dX9_copy_19 : decode cX9_copy 19 = .ok (.iconst 0, 1) := by decide +kernel
theorem dX9_copy_20 : decode cX9_copy 20 = .ok (.invokevirtual 71, 3) := by decide +kernel
theorem dX9_copy_23 : decode cX9_copy 23 = .ok (.ifCond .eq 7, 3) := by decide +kernel
theorem dX9_copy_26 : decode cX9_copy 26 = .ok (.iconst 0, 1) := by decide +kernel
theorem dX9_copy_27 : decode cX9_copy 27 = .ok (.goto 14, 3) := by decide +kernel
theorem dX9_copy_30 : decode cX9_copy 30 = .ok (.aload_n 0, 1) := by decide +kernel
theorem dX9_copy_31 : decode cX9_copy 31 = .ok (.iload_n 2, 1) := by decide +kernel
theorem dX9_copy_32 : decode cX9_copy 32 = .ok (.aload_n 0, 1) := by decide +kernel
theorem dX9_copy_33 : decode cX9_copy 33 = .ok (.getfield 9, 3) := by decide +kernel
theorem dX9_copy_36 : decode cX9_copy 36 = .ok (.iload_n 1, 1) := by decide +kernel
theorem dX9_copy_37 : decode cX9_copy 37 = .ok (.laload, 1) := by decide +kernel
theorem dX9_copy_38 : decode cX9_copy 38 = .ok (.invokevirtual 89, 3) := by decide +kernel
theorem dX9_copy_41 : decode cX9_copy 41 = .ok (.ireturn, 1) := by decide +kernel
theorem dX9_swap_0 : decode cX9_swap 0 = .ok (.aload_n 0, 1) := by decide +kernel
theorem dX9_swap_1 : decode cX9_swap 1 = .ok (.iload_n 1, 1) := by decide +kernel
theorem dX9_swap_2 : decode cX9_swap 2 = .ok (.invokestatic 67, 3) := by decide +kernel
theorem dX9_swap_5 : decode cX9_swap 5 = .ok (.ifCond .eq 10, 3) := by decide +kernel
theorem dX9_swap_8 : decode cX9_swap 8 = .ok (.iload_n 2, 1) := by decide +kernel
theorem dX9_swap_9 : decode cX9_swap 9 = .ok (.invokestatic 67, 3) := by decide +kernel
theorem dX9_swap_12 : decode cX9_swap 12 = .ok (.ifCond .ne 7, 3) := by decide +kernel
theorem dX9_swap_15 : decode cX9_swap 15 = .ok (.iconst 1, 1) := by decide +kernel
theorem dX9_swap_16 : decode cX9_swap 16 = .ok (.goto 4, 3) := by decide +kernel
theorem dX9_swap_19 : decode cX9_swap 19 = .ok (.iconst 0, 1) := by decide +kernel
theorem dX9_swap_20 : decode cX9_swap 20 = .ok (.invokevirtual 71, 3) := by decide +kernel
theorem dX9_swap_23 : decode cX9_swap 23 = .ok (.ifCond .eq 5, 3) := by decide +kernel
theorem dX9_swap_26 : decode cX9_swap 26 = .ok (.iconst 0, 1) := by decide +kernel
theorem dX9_swap_27 : decode cX9_swap 27 = .ok (.ireturn, 1) := by decide +kernel
theorem dX9_swap_28 : decode cX9_swap 28 = .ok (.aload_n 0, 1) := by decide +kernel
theorem dX9_swap_29 : decode cX9_swap 29 = .ok (.getfield 9, 3) := by decide +kernel
theorem dX9_swap_32 : decode cX9_swap 32 = .ok (.iload_n 1, 1) := by decide +kernel
theorem dX9_swap_33 : decode cX9_swap 33 = .ok (.laload, 1) := by decide +kernel
theorem dX9_swap_34 : decode cX9_swap 34 = .ok (.lstore_n 3, 1) := by decide +kernel
theorem dX9_swap_35 : decode cX9_swap 35 = .ok (.lload_n 3, 1) := by decide +kernel
theorem dX9_swap_36 : decode cX9_swap 36 = .ok (.aload_n 0, 1) := by decide +kernel
theorem dX9_swap_37 : decode cX9_swap 37 = .ok (.getfield 9, 3) := by decide +kernel
theorem dX9_swap_40 : decode cX9_swap 40 = .ok (.iload_n 2, 1) := by decide +kernel
theorem dX9_swap_41 : decode cX9_swap 41 = .ok (.laload, 1) := by decide +kernel
theorem dX9_swap_42 : decode cX9_swap 42 = .ok (.lcmp, 1) := by decide +kernel
theorem dX9_swap_43 : decode cX9_swap 43 = .ok (.ifCond .ne 7, 3) := by decide +kernel
theorem dX9_swap_46 : decode cX9_swap 46 = .ok (.iconst 1, 1) := by decide +kernel
theorem dX9_swap_47 : decode cX9_swap 47 = .ok (.goto 4, 3) := by decide +kernel
theorem dX9_swap_50 : decode cX9_swap 50 = .ok (.iconst 0, 1) := by decide +kernel
theorem dX9_swap_51 : decode cX9_swap 51 = .ok (.istore 5, 2) := by decide +kernel
theorem dX9_swap_53 : decode cX9_swap 53 = .ok (.aload_n 0, 1) := by decide +kernel
theorem dX9_swap_54 : decode cX9_swap 54 = .ok (.getfield 9, 3) := by decide +kernel
theorem dX9_swap_57 : decode cX9_swap 57 = .ok (.iload_n 1, 1) := by decide +kernel
theorem dX9_swap_58 : decode cX9_swap 58 = .ok (.aload_n 0, 1) := by decide +kernel
theorem dX9_swap_59 : decode cX9_swap 59 = .ok (.getfield 9, 3) := by decide +kernel
theorem dX9_swap_62 : decode cX9_swap 62 = .ok (.iload_n 2, 1) := by decide +kernel
theorem dX9_swap_63 : decode cX9_swap 63 = .ok (.laload, 1) := by decide +kernel
theorem dX9_swap_64 : decode cX9_swap 64 = .ok (.lastore, 1) := by decide +kernel
theorem dX9_swap_65 : decode cX9_swap 65 = .ok (.aload_n 0, 1) := by decide +kernel
theorem dX9_swap_66 : decode cX9_swap 66 = .ok (.getfield 9, 3) := by decide +kernel
theorem dX9_swap_69 : decode cX9_swap 69 = .ok (.iload_n 2, 1) := by decide +kernel
theorem dX9_swap_70 : decode cX9_swap 70 = .ok (.lload_n 3, 1) := by decide +kernel
theorem dX9_swap_71 : decode cX9_swap 71 = .ok (.lastore, 1) := by decide +kernel
theorem dX9_swap_72 : decode cX9_swap 72 = .ok (.aload_n 0, 1) := by decide +kernel
theorem dX9_swap_73 : decode cX9_swap 73 = .ok (.iload 5, 2) := by decide +kernel
theorem dX9_swap_75 : decode cX9_swap 75 = .ok (.ifCond .eq 7, 3) := by decide +kernel
theorem dX9_swap_78 : decode cX9_swap 78 = .ok (.iconst 0, 1) := by decide +kernel
theorem dX9_swap_79 : decode cX9_swap 79 = .ok (.goto 4, 3) := by decide +kernel
theorem dX9_swap_82 : decode cX9_swap 82 = .ok (.iconst 1, 1) := by decide +kernel
theorem dX9_swap_83 : decode cX9_swap 83 = .ok (.invokevirtual 80, 3) := by decide +kernel
theorem dX9_swap_86 : decode cX9_swap 86 = .ok (.ireturn, 1) := by decide +kernel
theorem dX9_shift_0 : decode cX9_shift 0 = .ok (.aload_n 0, 1) := by decide +kernel
theorem dX9_shift_1 : decode cX9_shift 1 = .ok (.iload_n 1, 1) := by decide +kernel
theorem dX9_shift_2 : decode cX9_shift 2 = .ok (.invokestatic 67, 3) := by decide +kernel
theorem dX9_shift_5 : decode cX9_shift 5 = .ok (.ifCond .ne 7, 3) := by decide +kernel
theorem dX9_shift_8 : decode cX9_shift 8 = .ok (.iconst 1, 1) := by decide +kernel
theorem dX9_shift_9 : decode cX9_shift 9 = .ok (.goto 4, 3) := by decide +kernel
theorem dX9_shift_12 : decode cX9_shift 12 = .ok (.iconst 0, 1) := by decide +kernel
theorem dX9_shift_13 : decode cX9_shift 13 = .ok (.iload_n 2, 1) := by decide +kernel
theorem dX9_shift_14 : decode cX9_shift 14 = .ok (.bipush (-40), 2) := by decide +kernel
theorem dX9_shift_16 : decode cX9_shift 16 = .ok (.if_icmp .le 9, 3) := by decide +kernel
theorem dX9_shift_19 : decode cX9_shift 19 = .ok (.iload_n 2, 1) := by decide +kernel
theorem dX9_shift_20 : decode cX9_shift 20 = .ok (.bipush 40, 2) := by decide +kernel
theorem dX9_shift_22 : decode cX9_shift 22 = .ok (.if_icmp .lt 7, 3) := by decide +kernel
theorem dX9_shift_25 : decode cX9_shift 25 = .ok (.iconst 1, 1) := by decide +kernel
theorem dX9_shift_26 : decode cX9_shift 26 = .ok (.goto 4, 3) := by decide +kernel
theorem dX9_shift_29 : decode cX9_shift 29 = .ok (.iconst 0, 1) := by decide +kernel
theorem dX9_shift_30 : decode cX9_shift 30 = .ok (.invokevirtual 63, 3) := by decide +kernel
theorem dX9_shift_33 : decode cX9_shift 33 = .ok (.ifCond .eq 5, 3) := by decide +kernel
theorem dX9_shift_36 : decode cX9_shift 36 = .ok (.iconst 0, 1) := by decide +kernel
theorem dX9_shift_37 : decode cX9_shift 37 = .ok (.ireturn, 1) := by decide +kernel
theorem dX9_shift_38 : decode cX9_shift 38 = .ok (.aload_n 0, 1) := by decide +kernel
theorem dX9_shift_39 : decode cX9_shift 39 = .ok (.getfield 9, 3) := by decide +kernel
theorem dX9_shift_42 : decode cX9_shift 42 = .ok (.iload_n 1, 1) := by decide +kernel
theorem dX9_shift_43 : decode cX9_shift 43 = .ok (.laload, 1) := by decide +kernel
theorem dX9_shift_44 : decode cX9_shift 44 = .ok (.lconst 0, 1) := by decide +kernel
theorem dX9_shift_45 : decode cX9_shift 45 = .ok (.lcmp, 1) := by decide +kernel
theorem dX9_shift_46 : decode cX9_shift 46 = .ok (.ifCond .eq 24, 3) := by decide +kernel
theorem dX9_shift_49 : decode cX9_shift 49 = .ok (.aload_n 0, 1) := by decide +kernel
theorem dX9_shift_50 : decode cX9_shift 50 = .ok (.getfield 9, 3) := by decide +kernel
theorem dX9_shift_53 : decode cX9_shift 53 = .ok (.iload_n 1, 1) := by decide +kernel
theorem dX9_shift_54 : decode cX9_shift 54 = .ok (.laload, 1) := by decide +kernel
theorem dX9_shift_55 : decode cX9_shift 55 = .ok (.invokestatic 41, 3) := by decide +kernel
theorem dX9_shift_58 : decode cX9_shift 58 = .ok (.iload_n 2, 1) := by decide +kernel
theorem dX9_shift_59 : decode cX9_shift 59 = .ok (.iadd, 1) := by decide +kernel
theorem dX9_shift_60 : decode cX9_shift 60 = .ok (.bipush 40, 2) := by decide +kernel
theorem dX9_shift_62 : decode cX9_shift 62 = .ok (.if_icmp .lt 8, 3) := by decide +kernel
theorem dX9_shift_65 : decode cX9_shift 65 = .ok (.aload_n 0, 1) := by decide +kernel
theorem dX9_shift_66 : decode cX9_shift 66 = .ok (.invokevirtual 93, 3) := by decide +kernel
theorem dX9_shift_69 : decode cX9_shift 69 = .ok (.ireturn, 1) := by decide +kernel
theorem dX9_shift_70 : decode cX9_shift 70 = .ok (.aload_n 0, 1) := by decide +kernel
theorem dX9_shift_71 : decode cX9_shift 71 = .ok (.iload_n 1, 1) := by decide +kernel
theorem dX9_shift_72 : decode cX9_shift 72 = .ok (.iload_n 2, 1) := by decide +kernel
theorem dX9_shift_73 : decode cX9_shift 73 = .ok (.ifCond .ge 15, 3) := by decide +kernel
theorem dX9_shift_76 : decode cX9_shift 76 = .ok (.aload_n 0, 1) := by decide +kernel
theorem dX9_shift_77 : decode cX9_shift 77 = .ok (.getfield 9, 3) := by decide +kernel
theorem dX9_shift_80 : decode cX9_shift 80 = .ok (.iload_n 1, 1) := by decide +kernel
theorem dX9_shift_81 : decode cX9_shift 81 = .ok (.laload, 1) := by decide +kernel
theorem dX9_shift_82 : decode cX9_shift 82 = .ok (.iload_n 2, 1) := by decide +kernel
theorem dX9_shift_83 : decode cX9_shift 83 = .ok (.ineg, 1) := by decide +kernel
theorem dX9_shift_84 : decode cX9_shift 84 = .ok (.lshr, 1) := by decide +kernel
theorem dX9_shift_85 : decode cX9_shift 85 = .ok (.goto 11, 3) := by decide +kernel
theorem dX9_shift_88 : decode cX9_shift 88 = .ok (.aload_n 0, 1) := by decide +kernel
theorem dX9_shift_89 : decode cX9_shift 89 = .ok (.getfield 9, 3) := by decide +kernel
theorem dX9_shift_92 : decode cX9_shift 92 = .ok (.iload_n 1, 1) := by decide +kernel
theorem dX9_shift_93 : decode cX9_shift 93 = .ok (.laload, 1) := by decide +kernel
theorem dX9_shift_94 : decode cX9_shift 94 = .ok (.iload_n 2, 1) := by decide +kernel
theorem dX9_shift_95 : decode cX9_shift 95 = .ok (.lshl, 1) := by decide +kernel
theorem dX9_shift_96 : decode cX9_shift 96 = .ok (.invokevirtual 89, 3) := by decide +kernel
theorem dX9_shift_99 : decode cX9_shift 99 = .ok (.ireturn, 1) := by decide +kernel
theorem dX9_turn_0 : decode cX9_turn 0 = .ok (.aload_n 0, 1) := by decide +kernel
theorem dX9_turn_1 : decode cX9_turn 1 = .ok (.iload_n 1, 1) := by decide +kernel
theorem dX9_turn_2 : decode cX9_turn 2 = .ok (.invokestatic 67, 3) := by decide +kernel
theorem dX9_turn_5 : decode cX9_turn 5 = .ok (.ifCond .ne 7, 3) := by decide +kernel
theorem dX9_turn_8 : decode cX9_turn 8 = .ok (.iconst 1, 1) := by decide +kernel
theorem dX9_turn_9 : decode cX9_turn 9 = .ok (.goto 4, 3) := by decide +kernel
theorem dX9_turn_12 : decode cX9_turn 12 = .ok (.iconst 0, 1) := by decide +kernel
theorem dX9_turn_13 : decode cX9_turn 13 = .ok (.invokevirtual 71, 3) := by decide +kernel
theorem dX9_turn_16 : decode cX9_turn 16 = .ok (.ifCond .eq 7, 3) := by decide +kernel
theorem dX9_turn_19 : decode cX9_turn 19 = .ok (.iconst 0, 1) := by decide +kernel
theorem dX9_turn_20 : decode cX9_turn 20 = .ok (.goto 17, 3) := by decide +kernel
theorem dX9_turn_23 : decode cX9_turn 23 = .ok (.aload_n 0, 1) := by decide +kernel
theorem dX9_turn_24 : decode cX9_turn 24 = .ok (.iload_n 1, 1) := by decide +kernel
theorem dX9_turn_25 : decode cX9_turn 25 = .ok (.aload_n 0, 1) := by decide +kernel
theorem dX9_turn_26 : decode cX9_turn 26 = .ok (.getfield 9, 3) := by decide +kernel
theorem dX9_turn_29 : decode cX9_turn 29 = .ok (.iload_n 1, 1) := by decide +kernel
theorem dX9_turn_30 : decode cX9_turn 30 = .ok (.laload, 1) := by decide +kernel
theorem dX9_turn_31 : decode cX9_turn 31 = .ok (.invokestatic 97, 3) := by decide +kernel
theorem dX9_turn_34 : decode cX9_turn 34 = .ok (.invokevirtual 89, 3) := by decide +kernel
theorem dX9_turn_37 : decode cX9_turn 37 = .ok (.ireturn, 1) := by decide +kernel
theorem dX9_slope_0 : decode cX9_slope 0 = .ok (.aload_n 0, 1) := by decide +kernel
theorem dX9_slope_1 : decode cX9_slope 1 = .ok (.iload_n 1, 1) := by decide +kernel
theorem dX9_slope_2 : decode cX9_slope 2 = .ok (.invokestatic 67, 3) := by decide +kernel
theorem dX9_slope_5 : decode cX9_slope 5 = .ok (.ifCond .ne 7, 3) := by decide +kernel
theorem dX9_slope_8 : decode cX9_slope 8 = .ok (.iconst 1, 1) := by decide +kernel
theorem dX9_slope_9 : decode cX9_slope 9 = .ok (.goto 4, 3) := by decide +kernel
theorem dX9_slope_12 : decode cX9_slope 12 = .ok (.iconst 0, 1) := by decide +kernel
theorem dX9_slope_13 : decode cX9_slope 13 = .ok (.invokevirtual 71, 3) := by decide +kernel
theorem dX9_slope_16 : decode cX9_slope 16 = .ok (.ifCond .eq 5, 3) := by decide +kernel
theorem dX9_slope_19 : decode cX9_slope 19 = .ok (.iconst 0, 1) := by decide +kernel
theorem dX9_slope_20 : decode cX9_slope 20 = .ok (.ireturn, 1) := by decide +kernel
theorem dX9_slope_21 : decode cX9_slope 21 = .ok (.lconst 0, 1) := by decide +kernel
theorem dX9_slope_22 : decode cX9_slope 22 = .ok (.lstore_n 2, 1) := by decide +kernel
theorem dX9_slope_23 : decode cX9_slope 23 = .ok (.iconst 0, 1) := by decide +kernel
theorem dX9_slope_24 : decode cX9_slope 24 = .ok (.istore 4, 2) := by decide +kernel
theorem dX9_slope_26 : decode cX9_slope 26 = .ok (.iload 4, 2) := by decide +kernel
theorem dX9_slope_28 : decode cX9_slope 28 = .ok (.bipush 40, 2) := by decide +kernel
theorem dX9_slope_30 : decode cX9_slope 30 = .ok (.if_icmp .ge 28, 3) := by decide +kernel
theorem dX9_slope_33 : decode cX9_slope 33 = .ok (.lload_n 2, 1) := by decide +kernel
theorem dX9_slope_34 : decode cX9_slope 34 = .ok (.aload_n 0, 1) := by decide +kernel
theorem dX9_slope_35 : decode cX9_slope 35 = .ok (.getfield 9, 3) := by decide +kernel
theorem dX9_slope_38 : decode cX9_slope 38 = .ok (.iload_n 1, 1) := by decide +kernel
theorem dX9_slope_39 : decode cX9_slope 39 = .ok (.laload, 1) := by decide +kernel
theorem dX9_slope_40 : decode cX9_slope 40 = .ok (.iload 4, 2) := by decide +kernel
theorem dX9_slope_42 : decode cX9_slope 42 = .ok (.iconst 1, 1) := by decide +kernel
theorem dX9_slope_43 : decode cX9_slope 43 = .ok (.iadd, 1) := by decide +kernel
theorem dX9_slope_44 : decode cX9_slope 44 = .ok (.lshr, 1) := by decide +kernel
theorem dX9_slope_45 : decode cX9_slope 45 = .ok (.lconst 1, 1) := by decide +kernel
theorem dX9_slope_46 : decode cX9_slope 46 = .ok (.land, 1) := by decide +kernel
theorem dX9_slope_47 : decode cX9_slope 47 = .ok (.iload 4, 2) := by decide +kernel
theorem dX9_slope_49 : decode cX9_slope 49 = .ok (.lshl, 1) := by decide +kernel
theorem dX9_slope_50 : decode cX9_slope 50 = .ok (.lor, 1) := by decide +kernel
theorem dX9_slope_51 : decode cX9_slope 51 = .ok (.lstore_n 2, 1) := by decide +kernel
theorem dX9_slope_52 : decode cX9_slope 52 = .ok (.iinc 4 2, 3) := by decide +kernel
theorem dX9_slope_55 : decode cX9_slope 55 = .ok (.goto (-29), 3) := by decide +kernel
theorem dX9_slope_58 : decode cX9_slope 58 = .ok (.aload_n 0, 1) := by decide +kernel
theorem dX9_slope_59 : decode cX9_slope 59 = .ok (.iload_n 1, 1) := by decide +kernel
theorem dX9_slope_60 : decode cX9_slope 60 = .ok (.lload_n 2, 1) := by decide +kernel
theorem dX9_slope_61 : decode cX9_slope 61 = .ok (.invokevirtual 89, 3) := by decide +kernel
theorem dX9_slope_64 : decode cX9_slope 64 = .ok (.ireturn, 1) := by decide +kernel
theorem dX9_add_0 : decode cX9_add 0 = .ok (.aload_n 0, 1) := by decide +kernel
theorem dX9_add_1 : decode cX9_add 1 = .ok (.iload_n 1, 1) := by decide +kernel
theorem dX9_add_2 : decode cX9_add 2 = .ok (.iload_n 2, 1) := by decide +kernel
theorem dX9_add_3 : decode cX9_add 3 = .ok (.iload_n 3, 1) := by decide +kernel
theorem dX9_add_4 : decode cX9_add 4 = .ok (.invokevirtual 101, 3) := by decide +kernel
theorem dX9_add_7 : decode cX9_add 7 = .ok (.ifCond .eq 7, 3) := by decide +kernel
theorem dX9_add_10 : decode cX9_add 10 = .ok (.iconst 0, 1) := by decide +kernel
theorem dX9_add_11 : decode cX9_add 11 = .ok (.goto 21, 3) := by decide +kernel
theorem dX9_add_14 : decode cX9_add 14 = .ok (.aload_n 0, 1) := by decide +kernel
theorem dX9_add_15 : decode cX9_add 15 = .ok (.iload_n 3, 1) := by decide +kernel
theorem dX9_add_16 : decode cX9_add 16 = .ok (.aload_n 0, 1) := by decide +kernel
theorem dX9_add_17 : decode cX9_add 17 = .ok (.getfield 9, 3) := by decide +kernel
theorem dX9_add_20 : decode cX9_add 20 = .ok (.iload_n 1, 1) := by decide +kernel
theorem dX9_add_21 : decode cX9_add 21 = .ok (.laload, 1) := by decide +kernel
theorem dX9_add_22 : decode cX9_add 22 = .ok (.aload_n 0, 1) := by decide +kernel
theorem dX9_add_23 : decode cX9_add 23 = .ok (.getfield 9, 3) := by decide +kernel
theorem dX9_add_26 : decode cX9_add 26 = .ok (.iload_n 2, 1) := by decide +kernel
theorem dX9_add_27 : decode cX9_add 27 = .ok (.laload, 1) := by decide +kernel
theorem dX9_add_28 : decode cX9_add 28 = .ok (.lxor, 1) := by decide +kernel
theorem dX9_add_29 : decode cX9_add 29 = .ok (.invokevirtual 89, 3) := by decide +kernel
theorem dX9_add_32 : decode cX9_add 32 = .ok (.ireturn, 1) := by decide +kernel
theorem dX9_isTooHigh_0 : decode cX9_isTooHigh 0 = .ok (.lload_n 1, 1) := by decide +kernel
theorem dX9_isTooHigh_1 : decode cX9_isTooHigh 1 = .ok (.lconst 0, 1) := by decide +kernel
theorem dX9_isTooHigh_2 : decode cX9_isTooHigh 2 = .ok (.lcmp, 1) := by decide +kernel
theorem dX9_isTooHigh_3 : decode cX9_isTooHigh 3 = .ok (.ifCond .eq 27, 3) := by decide +kernel
theorem dX9_isTooHigh_6 : decode cX9_isTooHigh 6 = .ok (.lload_n 3, 1) := by decide +kernel
theorem dX9_isTooHigh_7 : decode cX9_isTooHigh 7 = .ok (.lconst 0, 1) := by decide +kernel
theorem dX9_isTooHigh_8 : decode cX9_isTooHigh 8 = .ok (.lcmp, 1) := by decide +kernel
theorem dX9_isTooHigh_9 : decode cX9_isTooHigh 9 = .ok (.ifCond .eq 21, 3) := by decide +kernel
theorem dX9_isTooHigh_12 : decode cX9_isTooHigh 12 = .ok (.lload_n 1, 1) := by decide +kernel
theorem dX9_isTooHigh_13 : decode cX9_isTooHigh 13 = .ok (.invokestatic 41, 3) := by decide +kernel
theorem dX9_isTooHigh_16 : decode cX9_isTooHigh 16 = .ok (.lload_n 3, 1) := by decide +kernel
theorem dX9_isTooHigh_17 : decode cX9_isTooHigh 17 = .ok (.invokestatic 41, 3) := by decide +kernel
theorem dX9_isTooHigh_20 : decode cX9_isTooHigh 20 = .ok (.iadd, 1) := by decide +kernel
theorem dX9_isTooHigh_21 : decode cX9_isTooHigh 21 = .ok (.bipush 40, 2) := by decide +kernel
theorem dX9_isTooHigh_23 : decode cX9_isTooHigh 23 = .ok (.if_icmp .lt 7, 3) := by decide +kernel
theorem dX9_isTooHigh_26 : decode cX9_isTooHigh 26 = .ok (.iconst 1, 1) := by decide +kernel
theorem dX9_isTooHigh_27 : decode cX9_isTooHigh 27 = .ok (.goto 4, 3) := by decide +kernel
theorem dX9_isTooHigh_30 : decode cX9_isTooHigh 30 = .ok (.iconst 0, 1) := by decide +kernel
theorem dX9_isTooHigh_31 : decode cX9_isTooHigh 31 = .ok (.ireturn, 1) := by decide +kernel
theorem dX9_multiply_0 : decode cX9_multiply 0 = .ok (.aload_n 0, 1) := by decide +kernel
theorem dX9_multiply_1 : decode cX9_multiply 1 = .ok (.iload_n 1, 1) := by decide +kernel
theorem dX9_multiply_2 : decode cX9_multiply 2 = .ok (.iload_n 2, 1) := by decide +kernel
theorem dX9_multiply_3 : decode cX9_multiply 3 = .ok (.iload_n 3, 1) := by decide +kernel
theorem dX9_multiply_4 : decode cX9_multiply 4 = .ok (.invokevirtual 101, 3) := by decide +kernel
theorem dX9_multiply_7 : decode cX9_multiply 7 = .ok (.ifCond .eq 5, 3) := by decide +kernel
theorem dX9_multiply_10 : decode cX9_multiply 10 = .ok (.iconst 0, 1) := by decide +kernel
theorem dX9_multiply_11 : decode cX9_multiply 11 = .ok (.ireturn, 1) := by decide +kernel
theorem dX9_multiply_12 : decode cX9_multiply 12 = .ok (.aload_n 0, 1) := by decide +kernel
theorem dX9_multiply_13 : decode cX9_multiply 13 = .ok (.aload_n 0, 1) := by decide +kernel
theorem dX9_multiply_14 : decode cX9_multiply 14 = .ok (.getfield 9, 3) := by decide +kernel
theorem dX9_multiply_17 : decode cX9_multiply 17 = .ok (.iload_n 1, 1) := by decide +kernel
theorem dX9_multiply_18 : decode cX9_multiply 18 = .ok (.laload, 1) := by decide +kernel
theorem dX9_multiply_19 : decode cX9_multiply 19 = .ok (.aload_n 0, 1) := by decide +kernel
theorem dX9_multiply_20 : decode cX9_multiply 20 = .ok (.getfield 9, 3) := by decide +kernel
theorem dX9_multiply_23 : decode cX9_multiply 23 = .ok (.iload_n 2, 1) := by decide +kernel
theorem dX9_multiply_24 : decode cX9_multiply 24 = .ok (.laload, 1) := by decide +kernel
theorem dX9_multiply_25 : decode cX9_multiply 25 = .ok (.invokevirtual 105, 3) := by decide +kernel
theorem dX9_multiply_28 : decode cX9_multiply 28 = .ok (.ifCond .eq 10, 3) := by decide +kernel
theorem dX9_multiply_31 : decode cX9_multiply 31 = .ok (.aload_n 0, 1) := by decide +kernel
theorem dX9_multiply_32 : decode cX9_multiply 32 = .ok (.invokevirtual 93, 3) := by decide +kernel
theorem dX9_multiply_35 : decode cX9_multiply 35 = .ok (.goto 23, 3) := by decide +kernel
theorem dX9_multiply_38 : decode cX9_multiply 38 = .ok (.aload_n 0, 1) := by decide +kernel
theorem dX9_multiply_39 : decode cX9_multiply 39 = .ok (.iload_n 3, 1) := by decide +kernel
theorem dX9_multiply_40 : decode cX9_multiply 40 = .ok (.aload_n 0, 1) := by decide +kernel
theorem dX9_multiply_41 : decode cX9_multiply 41 = .ok (.getfield 9, 3) := by decide +kernel
theorem dX9_multiply_44 : decode cX9_multiply 44 = .ok (.iload_n 1, 1) := by decide +kernel
theorem dX9_multiply_45 : decode cX9_multiply 45 = .ok (.laload, 1) := by decide +kernel
theorem dX9_multiply_46 : decode cX9_multiply 46 = .ok (.aload_n 0, 1) := by decide +kernel
theorem dX9_multiply_47 : decode cX9_multiply 47 = .ok (.getfield 9, 3) := by decide +kernel
theorem dX9_multiply_50 : decode cX9_multiply 50 = .ok (.iload_n 2, 1) := by decide +kernel
theorem dX9_multiply_51 : decode cX9_multiply 51 = .ok (.laload, 1) := by decide +kernel
theorem dX9_multiply_52 : decode cX9_multiply 52 = .ok (.invokestatic 48, 3) := by decide +kernel
theorem dX9_multiply_55 : decode cX9_multiply 55 = .ok (.invokevirtual 89, 3) := by decide +kernel
theorem dX9_multiply_58 : decode cX9_multiply 58 = .ok (.ireturn, 1) := by decide +kernel
theorem dX9_square_0 : decode cX9_square 0 = .ok (.aload_n 0, 1) := by decide +kernel
theorem dX9_square_1 : decode cX9_square 1 = .ok (.iload_n 1, 1) := by decide +kernel
theorem dX9_square_2 : decode cX9_square 2 = .ok (.invokestatic 67, 3) := by decide +kernel
theorem dX9_square_5 : decode cX9_square 5 = .ok (.ifCond .eq 10, 3) := by decide +kernel
theorem dX9_square_8 : decode cX9_square 8 = .ok (.iload_n 2, 1) := by decide +kernel
theorem dX9_square_9 : decode cX9_square 9 = .ok (.invokestatic 67, 3) := by decide +kernel
theorem dX9_square_12 : decode cX9_square 12 = .ok (.ifCond .ne 7, 3) := by decide +kernel
theorem dX9_square_15 : decode cX9_square 15 = .ok (.iconst 1, 1) := by decide +kernel
theorem dX9_square_16 : decode cX9_square 16 = .ok (.goto 4, 3) := by decide +kernel
theorem dX9_square_19 : decode cX9_square 19 = .ok (.iconst 0, 1) := by decide +kernel
theorem dX9_square_20 : decode cX9_square 20 = .ok (.invokevirtual 71, 3) := by decide +kernel
theorem dX9_square_23 : decode cX9_square 23 = .ok (.ifCond .eq 5, 3) := by decide +kernel
theorem dX9_square_26 : decode cX9_square 26 = .ok (.iconst 0, 1) := by decide +kernel
theorem dX9_square_27 : decode cX9_square 27 = .ok (.ireturn, 1) := by decide +kernel
theorem dX9_square_28 : decode cX9_square 28 = .ok (.aload_n 0, 1) := by decide +kernel
theorem dX9_square_29 : decode cX9_square 29 = .ok (.aload_n 0, 1) := by decide +kernel
theorem dX9_square_30 : decode cX9_square 30 = .ok (.getfield 9, 3) := by decide +kernel
theorem dX9_square_33 : decode cX9_square 33 = .ok (.iload_n 1, 1) := by decide +kernel
theorem dX9_square_34 : decode cX9_square 34 = .ok (.laload, 1) := by decide +kernel
theorem dX9_square_35 : decode cX9_square 35 = .ok (.aload_n 0, 1) := by decide +kernel
theorem dX9_square_36 : decode cX9_square 36 = .ok (.getfield 9, 3) := by decide +kernel
theorem dX9_square_39 : decode cX9_square 39 = .ok (.iload_n 1, 1) := by decide +kernel
theorem dX9_square_40 : decode cX9_square 40 = .ok (.laload, 1) := by decide +kernel
theorem dX9_square_41 : decode cX9_square 41 = .ok (.invokevirtual 105, 3) := by decide +kernel
theorem dX9_square_44 : decode cX9_square 44 = .ok (.ifCond .eq 10, 3) := by decide +kernel
theorem dX9_square_47 : decode cX9_square 47 = .ok (.aload_n 0, 1) := by decide +kernel
theorem dX9_square_48 : decode cX9_square 48 = .ok (.invokevirtual 93, 3) := by decide +kernel
theorem dX9_square_51 : decode cX9_square 51 = .ok (.goto 23, 3) := by decide +kernel
theorem dX9_square_54 : decode cX9_square 54 = .ok (.aload_n 0, 1) := by decide +kernel
theorem dX9_square_55 : decode cX9_square 55 = .ok (.iload_n 2, 1) := by decide +kernel
theorem dX9_square_56 : decode cX9_square 56 = .ok (.aload_n 0, 1) := by decide +kernel
theorem dX9_square_57 : decode cX9_square 57 = .ok (.getfield 9, 3) := by decide +kernel
theorem dX9_square_60 : decode cX9_square 60 = .ok (.iload_n 1, 1) := by decide +kernel
theorem dX9_square_61 : decode cX9_square 61 = .ok (.laload, 1) := by decide +kernel
theorem dX9_square_62 : decode cX9_square 62 = .ok (.aload_n 0, 1) := by decide +kernel
theorem dX9_square_63 : decode cX9_square 63 = .ok (.getfield 9, 3) := by decide +kernel
theorem dX9_square_66 : decode cX9_square 66 = .ok (.iload_n 1, 1) := by decide +kernel
theorem dX9_square_67 : decode cX9_square 67 = .ok (.laload, 1) := by decide +kernel
theorem dX9_square_68 : decode cX9_square 68 = .ok (.invokestatic 48, 3) := by decide +kernel
theorem dX9_square_71 : decode cX9_square 71 = .ok (.invokevirtual 89, 3) := by decide +kernel
theorem dX9_square_74 : decode cX9_square 74 = .ok (.ireturn, 1) := by decide +kernel
theorem dX9_divide_0 : decode cX9_divide 0 = .ok (.aload_n 0, 1) := by decide +kernel
theorem dX9_divide_1 : decode cX9_divide 1 = .ok (.iload_n 1, 1) := by decide +kernel
theorem dX9_divide_2 : decode cX9_divide 2 = .ok (.iload_n 2, 1) := by decide +kernel
theorem dX9_divide_3 : decode cX9_divide 3 = .ok (.iload_n 3, 1) := by decide +kernel
theorem dX9_divide_4 : decode cX9_divide 4 = .ok (.invokevirtual 101, 3) := by decide +kernel
theorem dX9_divide_7 : decode cX9_divide 7 = .ok (.ifCond .eq 5, 3) := by decide +kernel
theorem dX9_divide_10 : decode cX9_divide 10 = .ok (.iconst 0, 1) := by decide +kernel
theorem dX9_divide_11 : decode cX9_divide 11 = .ok (.ireturn, 1) := by decide +kernel
theorem dX9_divide_12 : decode cX9_divide 12 = .ok (.aload_n 0, 1) := by decide +kernel
theorem dX9_divide_13 : decode cX9_divide 13 = .ok (.getfield 9, 3) := by decide +kernel
theorem dX9_divide_16 : decode cX9_divide 16 = .ok (.iload_n 2, 1) := by decide +kernel
theorem dX9_divide_17 : decode cX9_divide 17 = .ok (.laload, 1) := by decide +kernel
theorem dX9_divide_18 : decode cX9_divide 18 = .ok (.lconst 0, 1) := by decide +kernel
theorem dX9_divide_19 : decode cX9_divide 19 = .ok (.lcmp, 1) := by decide +kernel
theorem dX9_divide_20 : decode cX9_divide 20 = .ok (.ifCond .ne 10, 3) := by decide +kernel
theorem dX9_divide_23 : decode cX9_divide 23 = .ok (.aload_n 0, 1) := by decide +kernel
theorem dX9_divide_24 : decode cX9_divide 24 = .ok (.invokevirtual 93, 3) := by decide +kernel
theorem dX9_divide_27 : decode cX9_divide 27 = .ok (.goto 23, 3) := by decide +kernel
theorem dX9_divide_30 : decode cX9_divide 30 = .ok (.aload_n 0, 1) := by decide +kernel
theorem dX9_divide_31 : decode cX9_divide 31 = .ok (.iload_n 3, 1) := by decide +kernel
theorem dX9_divide_32 : decode cX9_divide 32 = .ok (.aload_n 0, 1) := by decide +kernel
theorem dX9_divide_33 : decode cX9_divide 33 = .ok (.getfield 9, 3) := by decide +kernel
theorem dX9_divide_36 : decode cX9_divide 36 = .ok (.iload_n 1, 1) := by decide +kernel
theorem dX9_divide_37 : decode cX9_divide 37 = .ok (.laload, 1) := by decide +kernel
theorem dX9_divide_38 : decode cX9_divide 38 = .ok (.aload_n 0, 1) := by decide +kernel
theorem dX9_divide_39 : decode cX9_divide 39 = .ok (.getfield 9, 3) := by decide +kernel
theorem dX9_divide_42 : decode cX9_divide 42 = .ok (.iload_n 2, 1) := by decide +kernel
theorem dX9_divide_43 : decode cX9_divide 43 = .ok (.laload, 1) := by decide +kernel
theorem dX9_divide_44 : decode cX9_divide 44 = .ok (.invokestatic 44, 3) := by decide +kernel
theorem dX9_divide_47 : decode cX9_divide 47 = .ok (.invokevirtual 89, 3) := by decide +kernel
theorem dX9_divide_50 : decode cX9_divide 50 = .ok (.ireturn, 1) := by decide +kernel
theorem dX9_remain_0 : decode cX9_remain 0 = .ok (.aload_n 0, 1) := by decide +kernel
theorem dX9_remain_1 : decode cX9_remain 1 = .ok (.iload_n 1, 1) := by decide +kernel
theorem dX9_remain_2 : decode cX9_remain 2 = .ok (.iload_n 2, 1) := by decide +kernel
theorem dX9_remain_3 : decode cX9_remain 3 = .ok (.iload_n 3, 1) := by decide +kernel
theorem dX9_remain_4 : decode cX9_remain 4 = .ok (.invokevirtual 101, 3) := by decide +kernel
theorem dX9_remain_7 : decode cX9_remain 7 = .ok (.ifCond .eq 5, 3) := by decide +kernel
theorem dX9_remain_10 : decode cX9_remain 10 = .ok (.iconst 0, 1) := by decide +kernel
theorem dX9_remain_11 : decode cX9_remain 11 = .ok (.ireturn, 1) := by decide +kernel
theorem dX9_remain_12 : decode cX9_remain 12 = .ok (.aload_n 0, 1) := by decide +kernel
theorem dX9_remain_13 : decode cX9_remain 13 = .ok (.getfield 9, 3) := by decide +kernel
theorem dX9_remain_16 : decode cX9_remain 16 = .ok (.iload_n 2, 1) := by decide +kernel
theorem dX9_remain_17 : decode cX9_remain 17 = .ok (.laload, 1) := by decide +kernel
theorem dX9_remain_18 : decode cX9_remain 18 = .ok (.lconst 0, 1) := by decide +kernel
theorem dX9_remain_19 : decode cX9_remain 19 = .ok (.lcmp, 1) := by decide +kernel
theorem dX9_remain_20 : decode cX9_remain 20 = .ok (.ifCond .ne 10, 3) := by decide +kernel
theorem dX9_remain_23 : decode cX9_remain 23 = .ok (.aload_n 0, 1) := by decide +kernel
theorem dX9_remain_24 : decode cX9_remain 24 = .ok (.invokevirtual 93, 3) := by decide +kernel
theorem dX9_remain_27 : decode cX9_remain 27 = .ok (.goto 23, 3) := by decide +kernel
theorem dX9_remain_30 : decode cX9_remain 30 = .ok (.aload_n 0, 1) := by decide +kernel
theorem dX9_remain_31 : decode cX9_remain 31 = .ok (.iload_n 3, 1) := by decide +kernel
theorem dX9_remain_32 : decode cX9_remain 32 = .ok (.aload_n 0, 1) := by decide +kernel
theorem dX9_remain_33 : decode cX9_remain 33 = .ok (.getfield 9, 3) := by decide +kernel
theorem dX9_remain_36 : decode cX9_remain 36 = .ok (.iload_n 1, 1) := by decide +kernel
theorem dX9_remain_37 : decode cX9_remain 37 = .ok (.laload, 1) := by decide +kernel
theorem dX9_remain_38 : decode cX9_remain 38 = .ok (.aload_n 0, 1) := by decide +kernel
theorem dX9_remain_39 : decode cX9_remain 39 = .ok (.getfield 9, 3) := by decide +kernel
theorem dX9_remain_42 : decode cX9_remain 42 = .ok (.iload_n 2, 1) := by decide +kernel
theorem dX9_remain_43 : decode cX9_remain 43 = .ok (.laload, 1) := by decide +kernel
theorem dX9_remain_44 : decode cX9_remain 44 = .ok (.invokestatic 51, 3) := by decide +kernel
theorem dX9_remain_47 : decode cX9_remain 47 = .ok (.invokevirtual 89, 3) := by decide +kernel
theorem dX9_remain_50 : decode cX9_remain 50 = .ok (.ireturn, 1) := by decide +kernel
theorem dX9_common_0 : decode cX9_common 0 = .ok (.aload_n 0, 1) := by decide +kernel
theorem dX9_common_1 : decode cX9_common 1 = .ok (.iload_n 1, 1) := by decide +kernel
theorem dX9_common_2 : decode cX9_common 2 = .ok (.iload_n 2, 1) := by decide +kernel
theorem dX9_common_3 : decode cX9_common 3 = .ok (.iload_n 3, 1) := by decide +kernel
theorem dX9_common_4 : decode cX9_common 4 = .ok (.invokevirtual 101, 3) := by decide +kernel
theorem dX9_common_7 : decode cX9_common 7 = .ok (.ifCond .eq 7, 3) := by decide +kernel
theorem dX9_common_10 : decode cX9_common 10 = .ok (.iconst 0, 1) := by decide +kernel
theorem dX9_common_11 : decode cX9_common 11 = .ok (.goto 23, 3) := by decide +kernel
theorem dX9_common_14 : decode cX9_common 14 = .ok (.aload_n 0, 1) := by decide +kernel
theorem dX9_common_15 : decode cX9_common 15 = .ok (.iload_n 3, 1) := by decide +kernel
theorem dX9_common_16 : decode cX9_common 16 = .ok (.aload_n 0, 1) := by decide +kernel
theorem dX9_common_17 : decode cX9_common 17 = .ok (.getfield 9, 3) := by decide +kernel
theorem dX9_common_20 : decode cX9_common 20 = .ok (.iload_n 1, 1) := by decide +kernel
theorem dX9_common_21 : decode cX9_common 21 = .ok (.laload, 1) := by decide +kernel
theorem dX9_common_22 : decode cX9_common 22 = .ok (.aload_n 0, 1) := by decide +kernel
theorem dX9_common_23 : decode cX9_common 23 = .ok (.getfield 9, 3) := by decide +kernel
theorem dX9_common_26 : decode cX9_common 26 = .ok (.iload_n 2, 1) := by decide +kernel
theorem dX9_common_27 : decode cX9_common 27 = .ok (.laload, 1) := by decide +kernel
theorem dX9_common_28 : decode cX9_common 28 = .ok (.invokestatic 109, 3) := by decide +kernel
theorem dX9_common_31 : decode cX9_common 31 = .ok (.invokevirtual 89, 3) := by decide +kernel
theorem dX9_common_34 : decode cX9_common 34 = .ok (.ireturn, 1) := by decide +kernel
theorem dX9_multipliers_0 : decode cX9_multipliers 0 = .ok (.aload_n 0, 1) := by decide +kernel
theorem dX9_multipliers_1 : decode cX9_multipliers 1 = .ok (.iload_n 1, 1) := by decide +kernel
theorem dX9_multipliers_2 : decode cX9_multipliers 2 = .ok (.invokestatic 67, 3) := by decide +kernel
theorem dX9_multipliers_5 : decode cX9_multipliers 5 = .ok (.ifCond .eq 25, 3) := by decide +kernel
theorem dX9_multipliers_8 : decode cX9_multipliers 8 = .ok (.iload_n 2, 1) := by decide +kernel
theorem dX9_multipliers_9 : decode cX9_multipliers 9 = .ok (.invokestatic 67, 3) := by decide +kernel
theorem dX9_multipliers_12 : decode cX9_multipliers 12 = .ok (.ifCond .eq 18, 3) := by decide +kernel
theorem dX9_multipliers_15 : decode cX9_multipliers 15 = .ok (.iload_n 3, 1) := by decide +kernel
theorem dX9_multipliers_16 : decode cX9_multipliers 16 = .ok (.invokestatic 67, 3) := by decide +kernel
theorem dX9_multipliers_19 : decode cX9_multipliers 19 = .ok (.ifCond .eq 11, 3) := by decide +kernel
theorem dX9_multipliers_22 : decode cX9_multipliers 22 = .ok (.iload 4, 2) := by decide +kernel
theorem dX9_multipliers_24 : decode cX9_multipliers 24 = .ok (.invokestatic 67, 3) := by decide +kernel
theorem dX9_multipliers_27 : decode cX9_multipliers 27 = .ok (.ifCond .ne 7, 3) := by decide +kernel
theorem dX9_multipliers_30 : decode cX9_multipliers 30 = .ok (.iconst 1, 1) := by decide +kernel
theorem dX9_multipliers_31 : decode cX9_multipliers 31 = .ok (.goto 4, 3) := by decide +kernel
theorem dX9_multipliers_34 : decode cX9_multipliers 34 = .ok (.iconst 0, 1) := by decide +kernel
theorem dX9_multipliers_35 : decode cX9_multipliers 35 = .ok (.iload_n 3, 1) := by decide +kernel
theorem dX9_multipliers_36 : decode cX9_multipliers 36 = .ok (.iload 4, 2) := by decide +kernel
theorem dX9_multipliers_38 : decode cX9_multipliers 38 = .ok (.if_icmp .ne 7, 3) := by decide +kernel
theorem dX9_multipliers_41 : decode cX9_multipliers 41 = .ok (.iconst 1, 1) := by decide +kernel
theorem dX9_multipliers_42 : decode cX9_multipliers 42 = .ok (.goto 4, 3) := by decide +kernel
theorem dX9_multipliers_45 : decode cX9_multipliers 45 = .ok (.iconst 0, 1) := by decide +kernel
theorem dX9_multipliers_46 : decode cX9_multipliers 46 = .ok (.invokevirtual 63, 3) := by decide +kernel
theorem dX9_multipliers_49 : decode cX9_multipliers 49 = .ok (.ifCond .eq 5, 3) := by decide +kernel
theorem dX9_multipliers_52 : decode cX9_multipliers 52 = .ok (.iconst 0, 1) := by decide +kernel
theorem dX9_multipliers_53 : decode cX9_multipliers 53 = .ok (.ireturn, 1) := by decide +kernel
theorem dX9_multipliers_54 : decode cX9_multipliers 54 = .ok (.iconst 3, 1) := by decide +kernel
theorem dX9_multipliers_55 : decode cX9_multipliers 55 = .ok (.newarray .long, 2) := by decide +kernel
theorem dX9_multipliers_57 : decode cX9_multipliers 57 = .ok (.dup, 1) := by decide +kernel
theorem dX9_multipliers_58 : decode cX9_multipliers 58 = .ok (.iconst 0, 1) := by decide +kernel
theorem dX9_multipliers_59 : decode cX9_multipliers 59 = .ok (.aload_n 0, 1) := by decide +kernel
theorem dX9_multipliers_60 : decode cX9_multipliers 60 = .ok (.getfield 9, 3) := by decide +kernel
theorem dX9_multipliers_63 : decode cX9_multipliers 63 = .ok (.iload_n 1, 1) := by decide +kernel
theorem dX9_multipliers_64 : decode cX9_multipliers 64 = .ok (.laload, 1) := by decide +kernel
theorem dX9_multipliers_65 : decode cX9_multipliers 65 = .ok (.lastore, 1) := by decide +kernel
theorem dX9_multipliers_66 : decode cX9_multipliers 66 = .ok (.dup, 1) := by decide +kernel
theorem dX9_multipliers_67 : decode cX9_multipliers 67 = .ok (.iconst 1, 1) := by decide +kernel
theorem dX9_multipliers_68 : decode cX9_multipliers 68 = .ok (.lconst 1, 1) := by decide +kernel
theorem dX9_multipliers_69 : decode cX9_multipliers 69 = .ok (.lastore, 1) := by decide +kernel
theorem dX9_multipliers_70 : decode cX9_multipliers 70 = .ok (.dup, 1) := by decide +kernel
theorem dX9_multipliers_71 : decode cX9_multipliers 71 = .ok (.iconst 2, 1) := by decide +kernel
theorem dX9_multipliers_72 : decode cX9_multipliers 72 = .ok (.lconst 0, 1) := by decide +kernel
theorem dX9_multipliers_73 : decode cX9_multipliers 73 = .ok (.lastore, 1) := by decide +kernel
theorem dX9_multipliers_74 : decode cX9_multipliers 74 = .ok (.astore 5, 2) := by decide +kernel
theorem dX9_multipliers_76 : decode cX9_multipliers 76 = .ok (.iconst 3, 1) := by decide +kernel
theorem dX9_multipliers_77 : decode cX9_multipliers 77 = .ok (.newarray .long, 2) := by decide +kernel
theorem dX9_multipliers_79 : decode cX9_multipliers 79 = .ok (.dup, 1) := by decide +kernel
theorem dX9_multipliers_80 : decode cX9_multipliers 80 = .ok (.iconst 0, 1) := by decide +kernel
theorem dX9_multipliers_81 : decode cX9_multipliers 81 = .ok (.aload_n 0, 1) := by decide +kernel
theorem dX9_multipliers_82 : decode cX9_multipliers 82 = .ok (.getfield 9, 3) := by decide +kernel
theorem dX9_multipliers_85 : decode cX9_multipliers 85 = .ok (.iload_n 2, 1) := by decide +kernel
theorem dX9_multipliers_86 : decode cX9_multipliers 86 = .ok (.laload, 1) := by decide +kernel
theorem dX9_multipliers_87 : decode cX9_multipliers 87 = .ok (.lastore, 1) := by decide +kernel
theorem dX9_multipliers_88 : decode cX9_multipliers 88 = .ok (.dup, 1) := by decide +kernel
theorem dX9_multipliers_89 : decode cX9_multipliers 89 = .ok (.iconst 1, 1) := by decide +kernel
theorem dX9_multipliers_90 : decode cX9_multipliers 90 = .ok (.lconst 0, 1) := by decide +kernel
theorem dX9_multipliers_91 : decode cX9_multipliers 91 = .ok (.lastore, 1) := by decide +kernel
theorem dX9_multipliers_92 : decode cX9_multipliers 92 = .ok (.dup, 1) := by decide +kernel
theorem dX9_multipliers_93 : decode cX9_multipliers 93 = .ok (.iconst 2, 1) := by decide +kernel
theorem dX9_multipliers_94 : decode cX9_multipliers 94 = .ok (.lconst 1, 1) := by decide +kernel
theorem dX9_multipliers_95 : decode cX9_multipliers 95 = .ok (.lastore, 1) := by decide +kernel
theorem dX9_multipliers_96 : decode cX9_multipliers 96 = .ok (.astore 6, 2) := by decide +kernel
theorem dX9_multipliers_98 : decode cX9_multipliers 98 = .ok (.aload 6, 2) := by decide +kernel
theorem dX9_multipliers_100 : decode cX9_multipliers 100 = .ok (.iconst 0, 1) := by decide +kernel
theorem dX9_multipliers_101 : decode cX9_multipliers 101 = .ok (.laload, 1) := by decide +kernel
theorem dX9_multipliers_102 : decode cX9_multipliers 102 = .ok (.lconst 0, 1) := by decide +kernel
theorem dX9_multipliers_103 : decode cX9_multipliers 103 = .ok (.lcmp, 1) := by decide +kernel
theorem dX9_multipliers_104 : decode cX9_multipliers 104 = .ok (.ifCond .eq 69, 3) := by decide +kernel
theorem dX9_multipliers_107 : decode cX9_multipliers 107 = .ok (.aload 5, 2) := by decide +kernel
theorem dX9_multipliers_109 : decode cX9_multipliers 109 = .ok (.iconst 0, 1) := by decide +kernel
theorem dX9_multipliers_110 : decode cX9_multipliers 110 = .ok (.laload, 1) := by decide +kernel
theorem dX9_multipliers_111 : decode cX9_multipliers 111 = .ok (.aload 6, 2) := by decide +kernel
theorem dX9_multipliers_113 : decode cX9_multipliers 113 = .ok (.iconst 0, 1) := by decide +kernel
theorem dX9_multipliers_114 : decode cX9_multipliers 114 = .ok (.laload, 1) := by decide +kernel
theorem dX9_multipliers_115 : decode cX9_multipliers 115 = .ok (.invokestatic 44, 3) := by decide +kernel
theorem dX9_multipliers_118 : decode cX9_multipliers 118 = .ok (.lstore 7, 2) := by decide +kernel
theorem dX9_multipliers_120 : decode cX9_multipliers 120 = .ok (.iconst 0, 1) := by decide +kernel
theorem dX9_multipliers_121 : decode cX9_multipliers 121 = .ok (.istore 9, 2) := by decide +kernel
theorem dX9_multipliers_123 : decode cX9_multipliers 123 = .ok (.iload 9, 2) := by decide +kernel
theorem dX9_multipliers_125 : decode cX9_multipliers 125 = .ok (.iconst 3, 1) := by decide +kernel
theorem dX9_multipliers_126 : decode cX9_multipliers 126 = .ok (.if_icmp .ge 44, 3) := by decide +kernel
theorem dX9_multipliers_129 : decode cX9_multipliers 129 = .ok (.aload 5, 2) := by decide +kernel
theorem dX9_multipliers_131 : decode cX9_multipliers 131 = .ok (.iload 9, 2) := by decide +kernel
theorem dX9_multipliers_133 : decode cX9_multipliers 133 = .ok (.laload, 1) := by decide +kernel
theorem dX9_multipliers_134 : decode cX9_multipliers 134 = .ok (.lload 7, 2) := by decide +kernel
theorem dX9_multipliers_136 : decode cX9_multipliers 136 = .ok (.aload 6, 2) := by decide +kernel
theorem dX9_multipliers_138 : decode cX9_multipliers 138 = .ok (.iload 9, 2) := by decide +kernel
theorem dX9_multipliers_140 : decode cX9_multipliers 140 = .ok (.laload, 1) := by decide +kernel
theorem dX9_multipliers_141 : decode cX9_multipliers 141 = .ok (.invokestatic 48, 3) := by decide +kernel
theorem dX9_multipliers_144 : decode cX9_multipliers 144 = .ok (.lxor, 1) := by decide +kernel
theorem dX9_multipliers_145 : decode cX9_multipliers 145 = .ok (.lstore 10, 2) := by decide +kernel
theorem dX9_multipliers_147 : decode cX9_multipliers 147 = .ok (.aload 5, 2) := by decide +kernel
theorem dX9_multipliers_149 : decode cX9_multipliers 149 = .ok (.iload 9, 2) := by decide +kernel
theorem dX9_multipliers_151 : decode cX9_multipliers 151 = .ok (.aload 6, 2) := by decide +kernel
theorem dX9_multipliers_153 : decode cX9_multipliers 153 = .ok (.iload 9, 2) := by decide +kernel
theorem dX9_multipliers_155 : decode cX9_multipliers 155 = .ok (.laload, 1) := by decide +kernel
theorem dX9_multipliers_156 : decode cX9_multipliers 156 = .ok (.lastore, 1) := by decide +kernel
theorem dX9_multipliers_157 : decode cX9_multipliers 157 = .ok (.aload 6, 2) := by decide +kernel
theorem dX9_multipliers_159 : decode cX9_multipliers 159 = .ok (.iload 9, 2) := by decide +kernel
theorem dX9_multipliers_161 : decode cX9_multipliers 161 = .ok (.lload 10, 2) := by decide +kernel
theorem dX9_multipliers_163 : decode cX9_multipliers 163 = .ok (.lastore, 1) := by decide +kernel
theorem dX9_multipliers_164 : decode cX9_multipliers 164 = .ok (.iinc 9 1, 3) := by decide +kernel
theorem dX9_multipliers_167 : decode cX9_multipliers 167 = .ok (.goto (-44), 3) := by decide +kernel
theorem dX9_multipliers_170 : decode cX9_multipliers 170 = .ok (.goto (-72), 3) := by decide +kernel
theorem dX9_multipliers_173 : decode cX9_multipliers 173 = .ok (.aload_n 0, 1) := by decide +kernel
theorem dX9_multipliers_174 : decode cX9_multipliers 174 = .ok (.getfield 9, 3) := by decide +kernel
theorem dX9_multipliers_177 : decode cX9_multipliers 177 = .ok (.iload_n 3, 1) := by decide +kernel
theorem dX9_multipliers_178 : decode cX9_multipliers 178 = .ok (.aload 5, 2) := by decide +kernel
theorem dX9_multipliers_180 : decode cX9_multipliers 180 = .ok (.iconst 1, 1) := by decide +kernel
theorem dX9_multipliers_181 : decode cX9_multipliers 181 = .ok (.laload, 1) := by decide +kernel
theorem dX9_multipliers_182 : decode cX9_multipliers 182 = .ok (.lastore, 1) := by decide +kernel
theorem dX9_multipliers_183 : decode cX9_multipliers 183 = .ok (.aload_n 0, 1) := by decide +kernel
theorem dX9_multipliers_184 : decode cX9_multipliers 184 = .ok (.getfield 9, 3) := by decide +kernel
theorem dX9_multipliers_187 : decode cX9_multipliers 187 = .ok (.iload 4, 2) := by decide +kernel
theorem dX9_multipliers_189 : decode cX9_multipliers 189 = .ok (.aload 5, 2) := by decide +kernel
theorem dX9_multipliers_191 : decode cX9_multipliers 191 = .ok (.iconst 2, 1) := by decide +kernel
theorem dX9_multipliers_192 : decode cX9_multipliers 192 = .ok (.laload, 1) := by decide +kernel
theorem dX9_multipliers_193 : decode cX9_multipliers 193 = .ok (.lastore, 1) := by decide +kernel
theorem dX9_multipliers_194 : decode cX9_multipliers 194 = .ok (.aload_n 0, 1) := by decide +kernel
theorem dX9_multipliers_195 : decode cX9_multipliers 195 = .ok (.aload 5, 2) := by decide +kernel
theorem dX9_multipliers_197 : decode cX9_multipliers 197 = .ok (.iconst 0, 1) := by decide +kernel
theorem dX9_multipliers_198 : decode cX9_multipliers 198 = .ok (.laload, 1) := by decide +kernel
theorem dX9_multipliers_199 : decode cX9_multipliers 199 = .ok (.invokestatic 41, 3) := by decide +kernel
theorem dX9_multipliers_202 : decode cX9_multipliers 202 = .ok (.invokevirtual 80, 3) := by decide +kernel
theorem dX9_multipliers_205 : decode cX9_multipliers 205 = .ok (.ireturn, 1) := by decide +kernel
theorem dX9_power_0 : decode cX9_power 0 = .ok (.aload_n 0, 1) := by decide +kernel
theorem dX9_power_1 : decode cX9_power 1 = .ok (.iload_n 1, 1) := by decide +kernel
theorem dX9_power_2 : decode cX9_power 2 = .ok (.invokestatic 67, 3) := by decide +kernel
theorem dX9_power_5 : decode cX9_power 5 = .ok (.ifCond .eq 18, 3) := by decide +kernel
theorem dX9_power_8 : decode cX9_power 8 = .ok (.iload_n 3, 1) := by decide +kernel
theorem dX9_power_9 : decode cX9_power 9 = .ok (.invokestatic 67, 3) := by decide +kernel
theorem dX9_power_12 : decode cX9_power 12 = .ok (.ifCond .eq 11, 3) := by decide +kernel
theorem dX9_power_15 : decode cX9_power 15 = .ok (.iload 4, 2) := by decide +kernel
theorem dX9_power_17 : decode cX9_power 17 = .ok (.invokestatic 67, 3) := by decide +kernel
theorem dX9_power_20 : decode cX9_power 20 = .ok (.ifCond .ne 7, 3) := by decide +kernel
theorem dX9_power_23 : decode cX9_power 23 = .ok (.iconst 1, 1) := by decide +kernel
theorem dX9_power_24 : decode cX9_power 24 = .ok (.goto 4, 3) := by decide +kernel
theorem dX9_power_27 : decode cX9_power 27 = .ok (.iconst 0, 1) := by decide +kernel
theorem dX9_power_28 : decode cX9_power 28 = .ok (.iload_n 2, 1) := by decide +kernel
theorem dX9_power_29 : decode cX9_power 29 = .ok (.ifCond .lt 10, 3) := by decide +kernel
theorem dX9_power_32 : decode cX9_power 32 = .ok (.iload_n 2, 1) := by decide +kernel
theorem dX9_power_33 : decode cX9_power 33 = .ok (.sipush 255, 3) := by decide +kernel
theorem dX9_power_36 : decode cX9_power 36 = .ok (.if_icmp .le 7, 3) := by decide +kernel
theorem dX9_power_39 : decode cX9_power 39 = .ok (.iconst 1, 1) := by decide +kernel
theorem dX9_power_40 : decode cX9_power 40 = .ok (.goto 4, 3) := by decide +kernel
theorem dX9_power_43 : decode cX9_power 43 = .ok (.iconst 0, 1) := by decide +kernel
theorem dX9_power_44 : decode cX9_power 44 = .ok (.invokevirtual 63, 3) := by decide +kernel
theorem dX9_power_47 : decode cX9_power 47 = .ok (.ifCond .eq 5, 3) := by decide +kernel
theorem dX9_power_50 : decode cX9_power 50 = .ok (.iconst 0, 1) := by decide +kernel
theorem dX9_power_51 : decode cX9_power 51 = .ok (.ireturn, 1) := by decide +kernel
theorem dX9_power_52 : decode cX9_power 52 = .ok (.aload_n 0, 1) := by decide +kernel
theorem dX9_power_53 : decode cX9_power 53 = .ok (.getfield 9, 3) := by decide +kernel
theorem dX9_power_56 : decode cX9_power 56 = .ok (.iload_n 3, 1) := by decide +kernel
theorem dX9_power_57 : decode cX9_power 57 = .ok (.laload, 1) := by decide +kernel
theorem dX9_power_58 : decode cX9_power 58 = .ok (.lconst 0, 1) := by decide +kernel
theorem dX9_power_59 : decode cX9_power 59 = .ok (.lcmp, 1) := by decide +kernel
theorem dX9_power_60 : decode cX9_power 60 = .ok (.ifCond .eq 17, 3) := by decide +kernel
theorem dX9_power_63 : decode cX9_power 63 = .ok (.aload_n 0, 1) := by decide +kernel
theorem dX9_power_64 : decode cX9_power 64 = .ok (.getfield 9, 3) := by decide +kernel
theorem dX9_power_67 : decode cX9_power 67 = .ok (.iload_n 3, 1) := by decide +kernel
theorem dX9_power_68 : decode cX9_power 68 = .ok (.laload, 1) := by decide +kernel
theorem dX9_power_69 : decode cX9_power 69 = .ok (.invokestatic 41, 3) := by decide +kernel
theorem dX9_power_72 : decode cX9_power 72 = .ok (.bipush 20, 2) := by decide +kernel
theorem dX9_power_74 : decode cX9_power 74 = .ok (.if_icmp .le 10, 3) := by decide +kernel
theorem dX9_power_77 : decode cX9_power 77 = .ok (.aload_n 0, 1) := by decide +kernel
theorem dX9_power_78 : decode cX9_power 78 = .ok (.invokevirtual 93, 3) := by decide +kernel
theorem dX9_power_81 : decode cX9_power 81 = .ok (.goto 25, 3) := by decide +kernel
theorem dX9_power_84 : decode cX9_power 84 = .ok (.aload_n 0, 1) := by decide +kernel
theorem dX9_power_85 : decode cX9_power 85 = .ok (.iload 4, 2) := by decide +kernel
theorem dX9_power_87 : decode cX9_power 87 = .ok (.aload_n 0, 1) := by decide +kernel
theorem dX9_power_88 : decode cX9_power 88 = .ok (.getfield 9, 3) := by decide +kernel
theorem dX9_power_91 : decode cX9_power 91 = .ok (.iload_n 1, 1) := by decide +kernel
theorem dX9_power_92 : decode cX9_power 92 = .ok (.laload, 1) := by decide +kernel
theorem dX9_power_93 : decode cX9_power 93 = .ok (.iload_n 2, 1) := by decide +kernel
theorem dX9_power_94 : decode cX9_power 94 = .ok (.aload_n 0, 1) := by decide +kernel
theorem dX9_power_95 : decode cX9_power 95 = .ok (.getfield 9, 3) := by decide +kernel
theorem dX9_power_98 : decode cX9_power 98 = .ok (.iload_n 3, 1) := by decide +kernel
theorem dX9_power_99 : decode cX9_power 99 = .ok (.laload, 1) := by decide +kernel
theorem dX9_power_100 : decode cX9_power 100 = .ok (.invokestatic 112, 3) := by decide +kernel
theorem dX9_power_103 : decode cX9_power 103 = .ok (.invokevirtual 89, 3) := by decide +kernel
theorem dX9_power_106 : decode cX9_power 106 = .ok (.ireturn, 1) := by decide +kernel
theorem dX9_allPrimes_0 : decode cX9_allPrimes 0 = .ok (.aload_n 0, 1) := by decide +kernel
theorem dX9_allPrimes_1 : decode cX9_allPrimes 1 = .ok (.iload_n 2, 1) := by decide +kernel
theorem dX9_allPrimes_2 : decode cX9_allPrimes 2 = .ok (.invokestatic 67, 3) := by decide +kernel
theorem dX9_allPrimes_5 : decode cX9_allPrimes 5 = .ok (.ifCond .ne 7, 3) := by decide +kernel
theorem dX9_allPrimes_8 : decode cX9_allPrimes 8 = .ok (.iconst 1, 1) := by decide +kernel
theorem dX9_allPrimes_9 : decode cX9_allPrimes 9 = .ok (.goto 4, 3) := by decide +kernel
theorem dX9_allPrimes_12 : decode cX9_allPrimes 12 = .ok (.iconst 0, 1) := by decide +kernel
theorem dX9_allPrimes_13 : decode cX9_allPrimes 13 = .ok (.iload_n 1, 1) := by decide +kernel
theorem dX9_allPrimes_14 : decode cX9_allPrimes 14 = .ok (.iconst 1, 1) := by decide +kernel
theorem dX9_allPrimes_15 : decode cX9_allPrimes 15 = .ok (.if_icmp .lt 8, 3) := by decide +kernel
theorem dX9_allPrimes_18 : decode cX9_allPrimes 18 = .ok (.iload_n 1, 1) := by decide +kernel
theorem dX9_allPrimes_19 : decode cX9_allPrimes 19 = .ok (.iconst 5, 1) := by decide +kernel
theorem dX9_allPrimes_20 : decode cX9_allPrimes 20 = .ok (.if_icmp .le 7, 3) := by decide +kernel
theorem dX9_allPrimes_23 : decode cX9_allPrimes 23 = .ok (.iconst 1, 1) := by decide +kernel
theorem dX9_allPrimes_24 : decode cX9_allPrimes 24 = .ok (.goto 4, 3) := by decide +kernel
theorem dX9_allPrimes_27 : decode cX9_allPrimes 27 = .ok (.iconst 0, 1) := by decide +kernel
theorem dX9_allPrimes_28 : decode cX9_allPrimes 28 = .ok (.invokevirtual 63, 3) := by decide +kernel
theorem dX9_allPrimes_31 : decode cX9_allPrimes 31 = .ok (.ifCond .eq 5, 3) := by decide +kernel
theorem dX9_allPrimes_34 : decode cX9_allPrimes 34 = .ok (.iconst 0, 1) := by decide +kernel
theorem dX9_allPrimes_35 : decode cX9_allPrimes 35 = .ok (.ireturn, 1) := by decide +kernel
theorem dX9_allPrimes_36 : decode cX9_allPrimes 36 = .ok (.lconst 1, 1) := by decide +kernel
theorem dX9_allPrimes_37 : decode cX9_allPrimes 37 = .ok (.lstore_n 3, 1) := by decide +kernel
theorem dX9_allPrimes_38 : decode cX9_allPrimes 38 = .ok (.iconst 1, 1) := by decide +kernel
theorem dX9_allPrimes_39 : decode cX9_allPrimes 39 = .ok (.istore 5, 2) := by decide +kernel
theorem dX9_allPrimes_41 : decode cX9_allPrimes 41 = .ok (.iload 5, 2) := by decide +kernel
theorem dX9_allPrimes_43 : decode cX9_allPrimes 43 = .ok (.iload_n 1, 1) := by decide +kernel
theorem dX9_allPrimes_44 : decode cX9_allPrimes 44 = .ok (.if_icmp .gt 61, 3) := by decide +kernel
theorem dX9_allPrimes_47 : decode cX9_allPrimes 47 = .ok (.iload_n 1, 1) := by decide +kernel
theorem dX9_allPrimes_48 : decode cX9_allPrimes 48 = .ok (.iload 5, 2) := by decide +kernel
theorem dX9_allPrimes_50 : decode cX9_allPrimes 50 = .ok (.irem, 1) := by decide +kernel
theorem dX9_allPrimes_51 : decode cX9_allPrimes 51 = .ok (.ifCond .eq 6, 3) := by decide +kernel
theorem dX9_allPrimes_54 : decode cX9_allPrimes 54 = .ok (.goto 45, 3) := by decide +kernel
theorem dX9_allPrimes_57 : decode cX9_allPrimes 57 = .ok (.lconst 1, 1) := by decide +kernel
theorem dX9_allPrimes_58 : decode cX9_allPrimes 58 = .ok (.iload 5, 2) := by decide +kernel
theorem dX9_allPrimes_60 : decode cX9_allPrimes 60 = .ok (.lshl, 1) := by decide +kernel
theorem dX9_allPrimes_61 : decode cX9_allPrimes 61 = .ok (.lstore 6, 2) := by decide +kernel
theorem dX9_allPrimes_63 : decode cX9_allPrimes 63 = .ok (.lload 6, 2) := by decide +kernel
theorem dX9_allPrimes_65 : decode cX9_allPrimes 65 = .ok (.ldc2_w 54, 3) := by decide +kernel
theorem dX9_allPrimes_68 : decode cX9_allPrimes 68 = .ok (.iload 5, 2) := by decide +kernel
theorem dX9_allPrimes_70 : decode cX9_allPrimes 70 = .ok (.lshl, 1) := by decide +kernel
theorem dX9_allPrimes_71 : decode cX9_allPrimes 71 = .ok (.lcmp, 1) := by decide +kernel
theorem dX9_allPrimes_72 : decode cX9_allPrimes 72 = .ok (.ifCond .ge 27, 3) := by decide +kernel
theorem dX9_allPrimes_75 : decode cX9_allPrimes 75 = .ok (.lload 6, 2) := by decide +kernel
theorem dX9_allPrimes_77 : decode cX9_allPrimes 77 = .ok (.invokestatic 56, 3) := by decide +kernel
theorem dX9_allPrimes_80 : decode cX9_allPrimes 80 = .ok (.ifCond .eq 10, 3) := by decide +kernel
theorem dX9_allPrimes_83 : decode cX9_allPrimes 83 = .ok (.lload_n 3, 1) := by decide +kernel
theorem dX9_allPrimes_84 : decode cX9_allPrimes 84 = .ok (.lload 6, 2) := by decide +kernel
theorem dX9_allPrimes_86 : decode cX9_allPrimes 86 = .ok (.invokestatic 48, 3) := by decide +kernel
theorem dX9_allPrimes_89 : decode cX9_allPrimes 89 = .ok (.lstore_n 3, 1) := by decide +kernel
theorem dX9_allPrimes_90 : decode cX9_allPrimes 90 = .ok (.lload 6, 2) := by decide +kernel
theorem dX9_allPrimes_92 : decode cX9_allPrimes 92 = .ok (.lconst 1, 1) := by decide +kernel
theorem dX9_allPrimes_93 : decode cX9_allPrimes 93 = .ok (.ladd, 1) := by decide +kernel
theorem dX9_allPrimes_94 : decode cX9_allPrimes 94 = .ok (.lstore 6, 2) := by decide +kernel
theorem dX9_allPrimes_96 : decode cX9_allPrimes 96 = .ok (.goto (-33), 3) := by decide +kernel
theorem dX9_allPrimes_99 : decode cX9_allPrimes 99 = .ok (.iinc 5 1, 3) := by decide +kernel
theorem dX9_allPrimes_102 : decode cX9_allPrimes 102 = .ok (.goto (-61), 3) := by decide +kernel
theorem dX9_allPrimes_105 : decode cX9_allPrimes 105 = .ok (.aload_n 0, 1) := by decide +kernel
theorem dX9_allPrimes_106 : decode cX9_allPrimes 106 = .ok (.iload_n 2, 1) := by decide +kernel
theorem dX9_allPrimes_107 : decode cX9_allPrimes 107 = .ok (.lload_n 3, 1) := by decide +kernel
theorem dX9_allPrimes_108 : decode cX9_allPrimes 108 = .ok (.invokevirtual 89, 3) := by decide +kernel
theorem dX9_allPrimes_111 : decode cX9_allPrimes 111 = .ok (.ireturn, 1) := by decide +kernel
theorem dX9_checkOf_0 : decode cX9_checkOf 0 = .ok (.lload_n 0, 1) := by decide +kernel
theorem dX9_checkOf_1 : decode cX9_checkOf 1 = .ok (.lload_n 2, 1) := by decide +kernel
theorem dX9_checkOf_2 : decode cX9_checkOf 2 = .ok (.invokestatic 41, 3) := by decide +kernel
theorem dX9_checkOf_5 : decode cX9_checkOf 5 = .ok (.lshl, 1) := by decide +kernel
theorem dX9_checkOf_6 : decode cX9_checkOf 6 = .ok (.lload_n 2, 1) := by decide +kernel
theorem dX9_checkOf_7 : decode cX9_checkOf 7 = .ok (.invokestatic 51, 3) := by decide +kernel
theorem dX9_checkOf_10 : decode cX9_checkOf 10 = .ok (.lreturn, 1) := by decide +kernel
theorem dX9_isNoSeal_0 : decode cX9_isNoSeal 0 = .ok (.lload_n 2, 1) := by decide +kernel
theorem dX9_isNoSeal_1 : decode cX9_isNoSeal 1 = .ok (.invokestatic 41, 3) := by decide +kernel
theorem dX9_isNoSeal_4 : decode cX9_isNoSeal 4 = .ok (.iconst 1, 1) := by decide +kernel
theorem dX9_isNoSeal_5 : decode cX9_isNoSeal 5 = .ok (.if_icmp .lt 26, 3) := by decide +kernel
theorem dX9_isNoSeal_8 : decode cX9_isNoSeal 8 = .ok (.lload_n 2, 1) := by decide +kernel
theorem dX9_isNoSeal_9 : decode cX9_isNoSeal 9 = .ok (.invokestatic 41, 3) := by decide +kernel
theorem dX9_isNoSeal_12 : decode cX9_isNoSeal 12 = .ok (.iload 4, 2) := by decide +kernel
theorem dX9_isNoSeal_14 : decode cX9_isNoSeal 14 = .ok (.if_icmp .gt 17, 3) := by decide +kernel
theorem dX9_isNoSeal_17 : decode cX9_isNoSeal 17 = .ok (.lload_n 0, 1) := by decide +kernel
theorem dX9_isNoSeal_18 : decode cX9_isNoSeal 18 = .ok (.invokestatic 41, 3) := by decide +kernel
theorem dX9_isNoSeal_21 : decode cX9_isNoSeal 21 = .ok (.lload_n 2, 1) := by decide +kernel
theorem dX9_isNoSeal_22 : decode cX9_isNoSeal 22 = .ok (.invokestatic 41, 3) := by decide +kernel
theorem dX9_isNoSeal_25 : decode cX9_isNoSeal 25 = .ok (.iadd, 1) := by decide +kernel
theorem dX9_isNoSeal_26 : decode cX9_isNoSeal 26 = .ok (.bipush 40, 2) := by decide +kernel
theorem dX9_isNoSeal_28 : decode cX9_isNoSeal 28 = .ok (.if_icmp .lt 7, 3) := by decide +kernel
theorem dX9_isNoSeal_31 : decode cX9_isNoSeal 31 = .ok (.iconst 1, 1) := by decide +kernel
theorem dX9_isNoSeal_32 : decode cX9_isNoSeal 32 = .ok (.goto 4, 3) := by decide +kernel
theorem dX9_isNoSeal_35 : decode cX9_isNoSeal 35 = .ok (.iconst 0, 1) := by decide +kernel
theorem dX9_isNoSeal_36 : decode cX9_isNoSeal 36 = .ok (.ireturn, 1) := by decide +kernel
theorem dX9_seal_0 : decode cX9_seal 0 = .ok (.aload_n 0, 1) := by decide +kernel
theorem dX9_seal_1 : decode cX9_seal 1 = .ok (.iload_n 1, 1) := by decide +kernel
theorem dX9_seal_2 : decode cX9_seal 2 = .ok (.iload_n 2, 1) := by decide +kernel
theorem dX9_seal_3 : decode cX9_seal 3 = .ok (.iload_n 3, 1) := by decide +kernel
theorem dX9_seal_4 : decode cX9_seal 4 = .ok (.invokevirtual 101, 3) := by decide +kernel
theorem dX9_seal_7 : decode cX9_seal 7 = .ok (.ifCond .eq 5, 3) := by decide +kernel
theorem dX9_seal_10 : decode cX9_seal 10 = .ok (.iconst 0, 1) := by decide +kernel
theorem dX9_seal_11 : decode cX9_seal 11 = .ok (.ireturn, 1) := by decide +kernel
theorem dX9_seal_12 : decode cX9_seal 12 = .ok (.aload_n 0, 1) := by decide +kernel
theorem dX9_seal_13 : decode cX9_seal 13 = .ok (.getfield 9, 3) := by decide +kernel
theorem dX9_seal_16 : decode cX9_seal 16 = .ok (.iload_n 1, 1) := by decide +kernel
theorem dX9_seal_17 : decode cX9_seal 17 = .ok (.laload, 1) := by decide +kernel
theorem dX9_seal_18 : decode cX9_seal 18 = .ok (.aload_n 0, 1) := by decide +kernel
theorem dX9_seal_19 : decode cX9_seal 19 = .ok (.getfield 9, 3) := by decide +kernel
theorem dX9_seal_22 : decode cX9_seal 22 = .ok (.iload_n 2, 1) := by decide +kernel
theorem dX9_seal_23 : decode cX9_seal 23 = .ok (.laload, 1) := by decide +kernel
theorem dX9_seal_24 : decode cX9_seal 24 = .ok (.bipush 40, 2) := by decide +kernel
theorem dX9_seal_26 : decode cX9_seal 26 = .ok (.invokestatic 116, 3) := by decide +kernel
theorem dX9_seal_29 : decode cX9_seal 29 = .ok (.ifCond .eq 8, 3) := by decide +kernel
theorem dX9_seal_32 : decode cX9_seal 32 = .ok (.aload_n 0, 1) := by decide +kernel
theorem dX9_seal_33 : decode cX9_seal 33 = .ok (.invokevirtual 93, 3) := by decide +kernel
theorem dX9_seal_36 : decode cX9_seal 36 = .ok (.ireturn, 1) := by decide +kernel
theorem dX9_seal_37 : decode cX9_seal 37 = .ok (.aload_n 0, 1) := by decide +kernel
theorem dX9_seal_38 : decode cX9_seal 38 = .ok (.getfield 9, 3) := by decide +kernel
theorem dX9_seal_41 : decode cX9_seal 41 = .ok (.iload_n 1, 1) := by decide +kernel
theorem dX9_seal_42 : decode cX9_seal 42 = .ok (.laload, 1) := by decide +kernel
theorem dX9_seal_43 : decode cX9_seal 43 = .ok (.aload_n 0, 1) := by decide +kernel
theorem dX9_seal_44 : decode cX9_seal 44 = .ok (.getfield 9, 3) := by decide +kernel
theorem dX9_seal_47 : decode cX9_seal 47 = .ok (.iload_n 2, 1) := by decide +kernel
theorem dX9_seal_48 : decode cX9_seal 48 = .ok (.laload, 1) := by decide +kernel
theorem dX9_seal_49 : decode cX9_seal 49 = .ok (.invokestatic 120, 3) := by decide +kernel
theorem dX9_seal_52 : decode cX9_seal 52 = .ok (.lstore 4, 2) := by decide +kernel
theorem dX9_seal_54 : decode cX9_seal 54 = .ok (.aload_n 0, 1) := by decide +kernel
theorem dX9_seal_55 : decode cX9_seal 55 = .ok (.getfield 9, 3) := by decide +kernel
theorem dX9_seal_58 : decode cX9_seal 58 = .ok (.iload_n 3, 1) := by decide +kernel
theorem dX9_seal_59 : decode cX9_seal 59 = .ok (.aload_n 0, 1) := by decide +kernel
theorem dX9_seal_60 : decode cX9_seal 60 = .ok (.getfield 9, 3) := by decide +kernel
theorem dX9_seal_63 : decode cX9_seal 63 = .ok (.iload_n 1, 1) := by decide +kernel
theorem dX9_seal_64 : decode cX9_seal 64 = .ok (.laload, 1) := by decide +kernel
theorem dX9_seal_65 : decode cX9_seal 65 = .ok (.aload_n 0, 1) := by decide +kernel
theorem dX9_seal_66 : decode cX9_seal 66 = .ok (.getfield 9, 3) := by decide +kernel
theorem dX9_seal_69 : decode cX9_seal 69 = .ok (.iload_n 2, 1) := by decide +kernel
theorem dX9_seal_70 : decode cX9_seal 70 = .ok (.laload, 1) := by decide +kernel
theorem dX9_seal_71 : decode cX9_seal 71 = .ok (.invokestatic 41, 3) := by decide +kernel
theorem dX9_seal_74 : decode cX9_seal 74 = .ok (.lshl, 1) := by decide +kernel
theorem dX9_seal_75 : decode cX9_seal 75 = .ok (.lload 4, 2) := by decide +kernel
theorem dX9_seal_77 : decode cX9_seal 77 = .ok (.lxor, 1) := by decide +kernel
theorem dX9_seal_78 : decode cX9_seal 78 = .ok (.lastore, 1) := by decide +kernel
theorem dX9_seal_79 : decode cX9_seal 79 = .ok (.aload_n 0, 1) := by decide +kernel
theorem dX9_seal_80 : decode cX9_seal 80 = .ok (.lload 4, 2) := by decide +kernel
theorem dX9_seal_82 : decode cX9_seal 82 = .ok (.invokestatic 60, 3) := by decide +kernel
theorem dX9_seal_85 : decode cX9_seal 85 = .ok (.invokevirtual 80, 3) := by decide +kernel
theorem dX9_seal_88 : decode cX9_seal 88 = .ok (.ireturn, 1) := by decide +kernel
theorem dX9_burst_0 : decode cX9_burst 0 = .ok (.aload_n 0, 1) := by decide +kernel
theorem dX9_burst_1 : decode cX9_burst 1 = .ok (.iload_n 1, 1) := by decide +kernel
theorem dX9_burst_2 : decode cX9_burst 2 = .ok (.invokestatic 67, 3) := by decide +kernel
theorem dX9_burst_5 : decode cX9_burst 5 = .ok (.ifCond .eq 10, 3) := by decide +kernel
theorem dX9_burst_8 : decode cX9_burst 8 = .ok (.iload_n 2, 1) := by decide +kernel
theorem dX9_burst_9 : decode cX9_burst 9 = .ok (.invokestatic 84, 3) := by decide +kernel
theorem dX9_burst_12 : decode cX9_burst 12 = .ok (.ifCond .ne 7, 3) := by decide +kernel
theorem dX9_burst_15 : decode cX9_burst 15 = .ok (.iconst 1, 1) := by decide +kernel
theorem dX9_burst_16 : decode cX9_burst 16 = .ok (.goto 4, 3) := by decide +kernel
theorem dX9_burst_19 : decode cX9_burst 19 = .ok (.iconst 0, 1) := by decide +kernel
theorem dX9_burst_20 : decode cX9_burst 20 = .ok (.iload_n 3, 1) := by decide +kernel
theorem dX9_burst_21 : decode cX9_burst 21 = .ok (.ifCond .lt 10, 3) := by decide +kernel
theorem dX9_burst_24 : decode cX9_burst 24 = .ok (.iload_n 3, 1) := by decide +kernel
theorem dX9_burst_25 : decode cX9_burst 25 = .ok (.sipush 4095, 3) := by decide +kernel
theorem dX9_burst_28 : decode cX9_burst 28 = .ok (.if_icmp .le 7, 3) := by decide +kernel
theorem dX9_burst_31 : decode cX9_burst 31 = .ok (.iconst 1, 1) := by decide +kernel
theorem dX9_burst_32 : decode cX9_burst 32 = .ok (.goto 4, 3) := by decide +kernel
theorem dX9_burst_35 : decode cX9_burst 35 = .ok (.iconst 0, 1) := by decide +kernel
theorem dX9_burst_36 : decode cX9_burst 36 = .ok (.invokevirtual 63, 3) := by decide +kernel
theorem dX9_burst_39 : decode cX9_burst 39 = .ok (.ifCond .eq 5, 3) := by decide +kernel
theorem dX9_burst_42 : decode cX9_burst 42 = .ok (.iconst 0, 1) := by decide +kernel
theorem dX9_burst_43 : decode cX9_burst 43 = .ok (.ireturn, 1) := by decide +kernel
theorem dX9_burst_44 : decode cX9_burst 44 = .ok (.iload_n 3, 1) := by decide +kernel
theorem dX9_burst_45 : decode cX9_burst 45 = .ok (.ifCond .le 20, 3) := by decide +kernel
theorem dX9_burst_48 : decode cX9_burst 48 = .ok (.iload_n 3, 1) := by decide +kernel
theorem dX9_burst_49 : decode cX9_burst 49 = .ok (.i2l, 1) := by decide +kernel
theorem dX9_burst_50 : decode cX9_burst 50 = .ok (.invokestatic 41, 3) := by decide +kernel
theorem dX9_burst_53 : decode cX9_burst 53 = .ok (.iload_n 2, 1) := by decide +kernel
theorem dX9_burst_54 : decode cX9_burst 54 = .ok (.iadd, 1) := by decide +kernel
theorem dX9_burst_55 : decode cX9_burst 55 = .ok (.bipush 40, 2) := by decide +kernel
theorem dX9_burst_57 : decode cX9_burst 57 = .ok (.if_icmp .lt 8, 3) := by decide +kernel
theorem dX9_burst_60 : decode cX9_burst 60 = .ok (.aload_n 0, 1) := by decide +kernel
theorem dX9_burst_61 : decode cX9_burst 61 = .ok (.invokevirtual 93, 3) := by decide +kernel
theorem dX9_burst_64 : decode cX9_burst 64 = .ok (.ireturn, 1) := by decide +kernel
theorem dX9_burst_65 : decode cX9_burst 65 = .ok (.aload_n 0, 1) := by decide +kernel
theorem dX9_burst_66 : decode cX9_burst 66 = .ok (.getfield 9, 3) := by decide +kernel
theorem dX9_burst_69 : decode cX9_burst 69 = .ok (.iload_n 1, 1) := by decide +kernel
theorem dX9_burst_70 : decode cX9_burst 70 = .ok (.dup2, 1) := by decide +kernel
theorem dX9_burst_71 : decode cX9_burst 71 = .ok (.laload, 1) := by decide +kernel
theorem dX9_burst_72 : decode cX9_burst 72 = .ok (.iload_n 3, 1) := by decide +kernel
theorem dX9_burst_73 : decode cX9_burst 73 = .ok (.i2l, 1) := by decide +kernel
theorem dX9_burst_74 : decode cX9_burst 74 = .ok (.iload_n 2, 1) := by decide +kernel
theorem dX9_burst_75 : decode cX9_burst 75 = .ok (.lshl, 1) := by decide +kernel
theorem dX9_burst_76 : decode cX9_burst 76 = .ok (.lxor, 1) := by decide +kernel
theorem dX9_burst_77 : decode cX9_burst 77 = .ok (.lastore, 1) := by decide +kernel
theorem dX9_burst_78 : decode cX9_burst 78 = .ok (.aload_n 0, 1) := by decide +kernel
theorem dX9_burst_79 : decode cX9_burst 79 = .ok (.aload_n 0, 1) := by decide +kernel
theorem dX9_burst_80 : decode cX9_burst 80 = .ok (.getfield 9, 3) := by decide +kernel
theorem dX9_burst_83 : decode cX9_burst 83 = .ok (.iload_n 1, 1) := by decide +kernel
theorem dX9_burst_84 : decode cX9_burst 84 = .ok (.laload, 1) := by decide +kernel
theorem dX9_burst_85 : decode cX9_burst 85 = .ok (.invokestatic 60, 3) := by decide +kernel
theorem dX9_burst_88 : decode cX9_burst 88 = .ok (.invokevirtual 80, 3) := by decide +kernel
theorem dX9_burst_91 : decode cX9_burst 91 = .ok (.ireturn, 1) := by decide +kernel
theorem dX9_factor_0 : decode cX9_factor 0 = .ok (.aload_n 0, 1) := by decide +kernel
theorem dX9_factor_1 : decode cX9_factor 1 = .ok (.iload_n 1, 1) := by decide +kernel
theorem dX9_factor_2 : decode cX9_factor 2 = .ok (.invokestatic 67, 3) := by decide +kernel
theorem dX9_factor_5 : decode cX9_factor 5 = .ok (.ifCond .ne 7, 3) := by decide +kernel
theorem dX9_factor_8 : decode cX9_factor 8 = .ok (.iconst 1, 1) := by decide +kernel
theorem dX9_factor_9 : decode cX9_factor 9 = .ok (.goto 4, 3) := by decide +kernel
theorem dX9_factor_12 : decode cX9_factor 12 = .ok (.iconst 0, 1) := by decide +kernel
theorem dX9_factor_13 : decode cX9_factor 13 = .ok (.iload_n 2, 1) := by decide +kernel
theorem dX9_factor_14 : decode cX9_factor 14 = .ok (.ifCond .lt 8, 3) := by decide +kernel
theorem dX9_factor_17 : decode cX9_factor 17 = .ok (.iload_n 2, 1) := by decide +kernel
theorem dX9_factor_18 : decode cX9_factor 18 = .ok (.iconst 1, 1) := by decide +kernel
theorem dX9_factor_19 : decode cX9_factor 19 = .ok (.if_icmp .le 7, 3) := by decide +kernel
theorem dX9_factor_22 : decode cX9_factor 22 = .ok (.iconst 1, 1) := by decide +kernel
theorem dX9_factor_23 : decode cX9_factor 23 = .ok (.goto 4, 3) := by decide +kernel
theorem dX9_factor_26 : decode cX9_factor 26 = .ok (.iconst 0, 1) := by decide +kernel
theorem dX9_factor_27 : decode cX9_factor 27 = .ok (.invokevirtual 63, 3) := by decide +kernel
theorem dX9_factor_30 : decode cX9_factor 30 = .ok (.ifCond .eq 5, 3) := by decide +kernel
theorem dX9_factor_33 : decode cX9_factor 33 = .ok (.iconst 0, 1) := by decide +kernel
theorem dX9_factor_34 : decode cX9_factor 34 = .ok (.ireturn, 1) := by decide +kernel
theorem dX9_factor_35 : decode cX9_factor 35 = .ok (.aload_n 0, 1) := by decide +kernel
theorem dX9_factor_36 : decode cX9_factor 36 = .ok (.getfield 9, 3) := by decide +kernel
theorem dX9_factor_39 : decode cX9_factor 39 = .ok (.iload_n 1, 1) := by decide +kernel
theorem dX9_factor_40 : decode cX9_factor 40 = .ok (.laload, 1) := by decide +kernel
theorem dX9_factor_41 : decode cX9_factor 41 = .ok (.invokestatic 41, 3) := by decide +kernel
theorem dX9_factor_44 : decode cX9_factor 44 = .ok (.iconst 1, 1) := by decide +kernel
theorem dX9_factor_45 : decode cX9_factor 45 = .ok (.if_icmp .lt 17, 3) := by decide +kernel
theorem dX9_factor_48 : decode cX9_factor 48 = .ok (.aload_n 0, 1) := by decide +kernel
theorem dX9_factor_49 : decode cX9_factor 49 = .ok (.getfield 9, 3) := by decide +kernel
theorem dX9_factor_52 : decode cX9_factor 52 = .ok (.iload_n 1, 1) := by decide +kernel
theorem dX9_factor_53 : decode cX9_factor 53 = .ok (.laload, 1) := by decide +kernel
theorem dX9_factor_54 : decode cX9_factor 54 = .ok (.invokestatic 41, 3) := by decide +kernel
theorem dX9_factor_57 : decode cX9_factor 57 = .ok (.bipush 10, 2) := by decide +kernel
theorem dX9_factor_59 : decode cX9_factor 59 = .ok (.if_icmp .le 8, 3) := by decide +kernel
theorem dX9_factor_62 : decode cX9_factor 62 = .ok (.aload_n 0, 1) := by decide +kernel
theorem dX9_factor_63 : decode cX9_factor 63 = .ok (.invokevirtual 93, 3) := by decide +kernel
theorem dX9_factor_66 : decode cX9_factor 66 = .ok (.ireturn, 1) := by decide +kernel
theorem dX9_factor_67 : decode cX9_factor 67 = .ok (.aload_n 0, 1) := by decide +kernel
theorem dX9_factor_68 : decode cX9_factor 68 = .ok (.iconst 0, 1) := by decide +kernel
theorem dX9_factor_69 : decode cX9_factor 69 = .ok (.putfield 123, 3) := by decide +kernel
theorem dX9_factor_72 : decode cX9_factor 72 = .ok (.aload_n 0, 1) := by decide +kernel
theorem dX9_factor_73 : decode cX9_factor 73 = .ok (.getfield 9, 3) := by decide +kernel
theorem dX9_factor_76 : decode cX9_factor 76 = .ok (.iload_n 1, 1) := by decide +kernel
theorem dX9_factor_77 : decode cX9_factor 77 = .ok (.laload, 1) := by decide +kernel
theorem dX9_factor_78 : decode cX9_factor 78 = .ok (.lstore_n 3, 1) := by decide +kernel
theorem dX9_factor_79 : decode cX9_factor 79 = .ok (.lload_n 3, 1) := by decide +kernel
theorem dX9_factor_80 : decode cX9_factor 80 = .ok (.invokestatic 41, 3) := by decide +kernel
theorem dX9_factor_83 : decode cX9_factor 83 = .ok (.ifCond .le 42, 3) := by decide +kernel
theorem dX9_factor_86 : decode cX9_factor 86 = .ok (.aload_n 0, 1) := by decide +kernel
theorem dX9_factor_87 : decode cX9_factor 87 = .ok (.getfield 13, 3) := by decide +kernel
theorem dX9_factor_90 : decode cX9_factor 90 = .ok (.aload_n 0, 1) := by decide +kernel
theorem dX9_factor_91 : decode cX9_factor 91 = .ok (.dup, 1) := by decide +kernel
theorem dX9_factor_92 : decode cX9_factor 92 = .ok (.getfield 123, 3) := by decide +kernel
theorem dX9_factor_95 : decode cX9_factor 95 = .ok (.dup_x1, 1) := by decide +kernel
theorem dX9_factor_96 : decode cX9_factor 96 = .ok (.iconst 1, 1) := by decide +kernel
theorem dX9_factor_97 : decode cX9_factor 97 = .ok (.iadd, 1) := by decide +kernel
theorem dX9_factor_98 : decode cX9_factor 98 = .ok (.putfield 123, 3) := by decide +kernel
theorem dX9_factor_101 : decode cX9_factor 101 = .ok (.lload_n 3, 1) := by decide +kernel
theorem dX9_factor_102 : decode cX9_factor 102 = .ok (.invokestatic 126, 3) := by decide +kernel
theorem dX9_factor_105 : decode cX9_factor 105 = .ok (.lastore, 1) := by decide +kernel
theorem dX9_factor_106 : decode cX9_factor 106 = .ok (.lload_n 3, 1) := by decide +kernel
theorem dX9_factor_107 : decode cX9_factor 107 = .ok (.aload_n 0, 1) := by decide +kernel
theorem dX9_factor_108 : decode cX9_factor 108 = .ok (.getfield 13, 3) := by decide +kernel
theorem dX9_factor_111 : decode cX9_factor 111 = .ok (.aload_n 0, 1) := by decide +kernel
theorem dX9_factor_112 : decode cX9_factor 112 = .ok (.getfield 123, 3) := by decide +kernel
theorem dX9_factor_115 : decode cX9_factor 115 = .ok (.iconst 1, 1) := by decide +kernel
theorem dX9_factor_116 : decode cX9_factor 116 = .ok (.isub, 1) := by decide +kernel
theorem dX9_factor_117 : decode cX9_factor 117 = .ok (.laload, 1) := by decide +kernel
theorem dX9_factor_118 : decode cX9_factor 118 = .ok (.invokestatic 44, 3) := by decide +kernel
theorem dX9_factor_121 : decode cX9_factor 121 = .ok (.lstore_n 3, 1) := by decide +kernel
theorem dX9_factor_122 : decode cX9_factor 122 = .ok (.goto (-43), 3) := by decide +kernel
theorem dX9_factor_125 : decode cX9_factor 125 = .ok (.iload_n 2, 1) := by decide +kernel
theorem dX9_factor_126 : decode cX9_factor 126 = .ok (.iconst 1, 1) := by decide +kernel
theorem dX9_factor_127 : decode cX9_factor 127 = .ok (.if_icmp .ne 65, 3) := by decide +kernel
theorem dX9_factor_130 : decode cX9_factor 130 = .ok (.iconst 0, 1) := by decide +kernel
theorem dX9_factor_131 : decode cX9_factor 131 = .ok (.istore_n 3, 1) := by decide +kernel
theorem dX9_factor_132 : decode cX9_factor 132 = .ok (.iload_n 3, 1) := by decide +kernel
theorem dX9_factor_133 : decode cX9_factor 133 = .ok (.aload_n 0, 1) := by decide +kernel
theorem dX9_factor_134 : decode cX9_factor 134 = .ok (.getfield 123, 3) := by decide +kernel
theorem dX9_factor_137 : decode cX9_factor 137 = .ok (.iconst 1, 1) := by decide +kernel
theorem dX9_factor_138 : decode cX9_factor 138 = .ok (.isub, 1) := by decide +kernel
theorem dX9_factor_139 : decode cX9_factor 139 = .ok (.iload_n 3, 1) := by decide +kernel
theorem dX9_factor_140 : decode cX9_factor 140 = .ok (.isub, 1) := by decide +kernel
theorem dX9_factor_141 : decode cX9_factor 141 = .ok (.if_icmp .ge 51, 3) := by decide +kernel
theorem dX9_factor_144 : decode cX9_factor 144 = .ok (.aload_n 0, 1) := by decide +kernel
theorem dX9_factor_145 : decode cX9_factor 145 = .ok (.getfield 13, 3) := by decide +kernel
theorem dX9_factor_148 : decode cX9_factor 148 = .ok (.iload_n 3, 1) := by decide +kernel
theorem dX9_factor_149 : decode cX9_factor 149 = .ok (.laload, 1) := by decide +kernel
theorem dX9_factor_150 : decode cX9_factor 150 = .ok (.lstore 4, 2) := by decide +kernel
theorem dX9_factor_152 : decode cX9_factor 152 = .ok (.aload_n 0, 1) := by decide +kernel
theorem dX9_factor_153 : decode cX9_factor 153 = .ok (.getfield 13, 3) := by decide +kernel
theorem dX9_factor_156 : decode cX9_factor 156 = .ok (.iload_n 3, 1) := by decide +kernel
theorem dX9_factor_157 : decode cX9_factor 157 = .ok (.aload_n 0, 1) := by decide +kernel
theorem dX9_factor_158 : decode cX9_factor 158 = .ok (.getfield 13, 3) := by decide +kernel
theorem dX9_factor_161 : decode cX9_factor 161 = .ok (.aload_n 0, 1) := by decide +kernel
theorem dX9_factor_162 : decode cX9_factor 162 = .ok (.getfield 123, 3) := by decide +kernel
theorem dX9_factor_165 : decode cX9_factor 165 = .ok (.iconst 1, 1) := by decide +kernel
theorem dX9_factor_166 : decode cX9_factor 166 = .ok (.isub, 1) := by decide +kernel
theorem dX9_factor_167 : decode cX9_factor 167 = .ok (.iload_n 3, 1) := by decide +kernel
theorem dX9_factor_168 : decode cX9_factor 168 = .ok (.isub, 1) := by decide +kernel
theorem dX9_factor_169 : decode cX9_factor 169 = .ok (.laload, 1) := by decide +kernel
theorem dX9_factor_170 : decode cX9_factor 170 = .ok (.lastore, 1) := by decide +kernel
theorem dX9_factor_171 : decode cX9_factor 171 = .ok (.aload_n 0, 1) := by decide +kernel
theorem dX9_factor_172 : decode cX9_factor 172 = .ok (.getfield 13, 3) := by decide +kernel
theorem dX9_factor_175 : decode cX9_factor 175 = .ok (.aload_n 0, 1) := by decide +kernel
theorem dX9_factor_176 : decode cX9_factor 176 = .ok (.getfield 123, 3) := by decide +kernel
theorem dX9_factor_179 : decode cX9_factor 179 = .ok (.iconst 1, 1) := by decide +kernel
theorem dX9_factor_180 : decode cX9_factor 180 = .ok (.isub, 1) := by decide +kernel
theorem dX9_factor_181 : decode cX9_factor 181 = .ok (.iload_n 3, 1) := by decide +kernel
theorem dX9_factor_182 : decode cX9_factor 182 = .ok (.isub, 1) := by decide +kernel
theorem dX9_factor_183 : decode cX9_factor 183 = .ok (.lload 4, 2) := by decide +kernel
theorem dX9_factor_185 : decode cX9_factor 185 = .ok (.lastore, 1) := by decide +kernel
theorem dX9_factor_186 : decode cX9_factor 186 = .ok (.iinc 3 1, 3) := by decide +kernel
theorem dX9_factor_189 : decode cX9_factor 189 = .ok (.goto (-57), 3) := by decide +kernel
theorem dX9_factor_192 : decode cX9_factor 192 = .ok (.aload_n 0, 1) := by decide +kernel
theorem dX9_factor_193 : decode cX9_factor 193 = .ok (.aload_n 0, 1) := by decide +kernel
theorem dX9_factor_194 : decode cX9_factor 194 = .ok (.getfield 123, 3) := by decide +kernel
theorem dX9_factor_197 : decode cX9_factor 197 = .ok (.invokevirtual 80, 3) := by decide +kernel
theorem dX9_factor_200 : decode cX9_factor 200 = .ok (.ireturn, 1) := by decide +kernel
theorem dX9_enroll_0 : decode cX9_enroll 0 = .ok (.aload_n 0, 1) := by decide +kernel
theorem dX9_enroll_1 : decode cX9_enroll 1 = .ok (.iload_n 1, 1) := by decide +kernel
theorem dX9_enroll_2 : decode cX9_enroll 2 = .ok (.invokestatic 67, 3) := by decide +kernel
theorem dX9_enroll_5 : decode cX9_enroll 5 = .ok (.ifCond .ne 7, 3) := by decide +kernel
theorem dX9_enroll_8 : decode cX9_enroll 8 = .ok (.iconst 1, 1) := by decide +kernel
theorem dX9_enroll_9 : decode cX9_enroll 9 = .ok (.goto 4, 3) := by decide +kernel
theorem dX9_enroll_12 : decode cX9_enroll 12 = .ok (.iconst 0, 1) := by decide +kernel
theorem dX9_enroll_13 : decode cX9_enroll 13 = .ok (.invokevirtual 71, 3) := by decide +kernel
theorem dX9_enroll_16 : decode cX9_enroll 16 = .ok (.ifCond .eq 5, 3) := by decide +kernel
theorem dX9_enroll_19 : decode cX9_enroll 19 = .ok (.iconst 0, 1) := by decide +kernel
theorem dX9_enroll_20 : decode cX9_enroll 20 = .ok (.ireturn, 1) := by decide +kernel
theorem dX9_enroll_21 : decode cX9_enroll 21 = .ok (.aload_n 0, 1) := by decide +kernel
theorem dX9_enroll_22 : decode cX9_enroll 22 = .ok (.getfield 123, 3) := by decide +kernel
theorem dX9_enroll_25 : decode cX9_enroll 25 = .ok (.bipush 12, 2) := by decide +kernel
theorem dX9_enroll_27 : decode cX9_enroll 27 = .ok (.if_icmp .ne 8, 3) := by decide +kernel
theorem dX9_enroll_30 : decode cX9_enroll 30 = .ok (.aload_n 0, 1) := by decide +kernel
theorem dX9_enroll_31 : decode cX9_enroll 31 = .ok (.invokevirtual 93, 3) := by decide +kernel
theorem dX9_enroll_34 : decode cX9_enroll 34 = .ok (.ireturn, 1) := by decide +kernel
theorem dX9_enroll_35 : decode cX9_enroll 35 = .ok (.aload_n 0, 1) := by decide +kernel
theorem dX9_enroll_36 : decode cX9_enroll 36 = .ok (.getfield 13, 3) := by decide +kernel
theorem dX9_enroll_39 : decode cX9_enroll 39 = .ok (.aload_n 0, 1) := by decide +kernel
theorem dX9_enroll_40 : decode cX9_enroll 40 = .ok (.dup, 1) := by decide +kernel
theorem dX9_enroll_41 : decode cX9_enroll 41 = .ok (.getfield 123, 3) := by decide +kernel
theorem dX9_enroll_44 : decode cX9_enroll 44 = .ok (.dup_x1, 1) := by decide +kernel
theorem dX9_enroll_45 : decode cX9_enroll 45 = .ok (.iconst 1, 1) := by decide +kernel
theorem dX9_enroll_46 : decode cX9_enroll 46 = .ok (.iadd, 1) := by decide +kernel
theorem dX9_enroll_47 : decode cX9_enroll 47 = .ok (.putfield 123, 3) := by decide +kernel
theorem dX9_enroll_50 : decode cX9_enroll 50 = .ok (.aload_n 0, 1) := by decide +kernel
theorem dX9_enroll_51 : decode cX9_enroll 51 = .ok (.getfield 9, 3) := by decide +kernel
theorem dX9_enroll_54 : decode cX9_enroll 54 = .ok (.iload_n 1, 1) := by decide +kernel
theorem dX9_enroll_55 : decode cX9_enroll 55 = .ok (.laload, 1) := by decide +kernel
theorem dX9_enroll_56 : decode cX9_enroll 56 = .ok (.lastore, 1) := by decide +kernel
theorem dX9_enroll_57 : decode cX9_enroll 57 = .ok (.aload_n 0, 1) := by decide +kernel
theorem dX9_enroll_58 : decode cX9_enroll 58 = .ok (.aload_n 0, 1) := by decide +kernel
theorem dX9_enroll_59 : decode cX9_enroll 59 = .ok (.getfield 123, 3) := by decide +kernel
theorem dX9_enroll_62 : decode cX9_enroll 62 = .ok (.invokevirtual 80, 3) := by decide +kernel
theorem dX9_enroll_65 : decode cX9_enroll 65 = .ok (.ireturn, 1) := by decide +kernel
theorem dX9_strike_0 : decode cX9_strike 0 = .ok (.aload_n 0, 1) := by decide +kernel
theorem dX9_strike_1 : decode cX9_strike 1 = .ok (.iload_n 1, 1) := by decide +kernel
theorem dX9_strike_2 : decode cX9_strike 2 = .ok (.ifCond .lt 11, 3) := by decide +kernel
theorem dX9_strike_5 : decode cX9_strike 5 = .ok (.iload_n 1, 1) := by decide +kernel
theorem dX9_strike_6 : decode cX9_strike 6 = .ok (.aload_n 0, 1) := by decide +kernel
theorem dX9_strike_7 : decode cX9_strike 7 = .ok (.getfield 123, 3) := by decide +kernel
theorem dX9_strike_10 : decode cX9_strike 10 = .ok (.if_icmp .lt 7, 3) := by decide +kernel
theorem dX9_strike_13 : decode cX9_strike 13 = .ok (.iconst 1, 1) := by decide +kernel
theorem dX9_strike_14 : decode cX9_strike 14 = .ok (.goto 4, 3) := by decide +kernel
theorem dX9_strike_17 : decode cX9_strike 17 = .ok (.iconst 0, 1) := by decide +kernel
theorem dX9_strike_18 : decode cX9_strike 18 = .ok (.invokevirtual 71, 3) := by decide +kernel
theorem dX9_strike_21 : decode cX9_strike 21 = .ok (.ifCond .eq 5, 3) := by decide +kernel
theorem dX9_strike_24 : decode cX9_strike 24 = .ok (.iconst 0, 1) := by decide +kernel
theorem dX9_strike_25 : decode cX9_strike 25 = .ok (.ireturn, 1) := by decide +kernel
theorem dX9_strike_26 : decode cX9_strike 26 = .ok (.aload_n 0, 1) := by decide +kernel
theorem dX9_strike_27 : decode cX9_strike 27 = .ok (.getfield 13, 3) := by decide +kernel
theorem dX9_strike_30 : decode cX9_strike 30 = .ok (.iload_n 1, 1) := by decide +kernel
theorem dX9_strike_31 : decode cX9_strike 31 = .ok (.laload, 1) := by decide +kernel
theorem dX9_strike_32 : decode cX9_strike 32 = .ok (.invokestatic 41, 3) := by decide +kernel
theorem dX9_strike_35 : decode cX9_strike 35 = .ok (.istore_n 2, 1) := by decide +kernel
theorem dX9_strike_36 : decode cX9_strike 36 = .ok (.aload_n 0, 1) := by decide +kernel
theorem dX9_strike_37 : decode cX9_strike 37 = .ok (.dup, 1) := by decide +kernel
theorem dX9_strike_38 : decode cX9_strike 38 = .ok (.getfield 123, 3) := by decide +kernel
theorem dX9_strike_41 : decode cX9_strike 41 = .ok (.iconst 1, 1) := by decide +kernel
theorem dX9_strike_42 : decode cX9_strike 42 = .ok (.isub, 1) := by decide +kernel
theorem dX9_strike_43 : decode cX9_strike 43 = .ok (.putfield 123, 3) := by decide +kernel
theorem dX9_strike_46 : decode cX9_strike 46 = .ok (.iload_n 1, 1) := by decide +kernel
theorem dX9_strike_47 : decode cX9_strike 47 = .ok (.istore_n 3, 1) := by decide +kernel
theorem dX9_strike_48 : decode cX9_strike 48 = .ok (.iload_n 3, 1) := by decide +kernel
theorem dX9_strike_49 : decode cX9_strike 49 = .ok (.aload_n 0, 1) := by decide +kernel
theorem dX9_strike_50 : decode cX9_strike 50 = .ok (.getfield 123, 3) := by decide +kernel
theorem dX9_strike_53 : decode cX9_strike 53 = .ok (.if_icmp .ge 23, 3) := by decide +kernel
theorem dX9_strike_56 : decode cX9_strike 56 = .ok (.aload_n 0, 1) := by decide +kernel
theorem dX9_strike_57 : decode cX9_strike 57 = .ok (.getfield 13, 3) := by decide +kernel
theorem dX9_strike_60 : decode cX9_strike 60 = .ok (.iload_n 3, 1) := by decide +kernel
theorem dX9_strike_61 : decode cX9_strike 61 = .ok (.aload_n 0, 1) := by decide +kernel
theorem dX9_strike_62 : decode cX9_strike 62 = .ok (.getfield 13, 3) := by decide +kernel
theorem dX9_strike_65 : decode cX9_strike 65 = .ok (.iload_n 3, 1) := by decide +kernel
theorem dX9_strike_66 : decode cX9_strike 66 = .ok (.iconst 1, 1) := by decide +kernel
theorem dX9_strike_67 : decode cX9_strike 67 = .ok (.iadd, 1) := by decide +kernel
theorem dX9_strike_68 : decode cX9_strike 68 = .ok (.laload, 1) := by decide +kernel
theorem dX9_strike_69 : decode cX9_strike 69 = .ok (.lastore, 1) := by decide +kernel
theorem dX9_strike_70 : decode cX9_strike 70 = .ok (.iinc 3 1, 3) := by decide +kernel
theorem dX9_strike_73 : decode cX9_strike 73 = .ok (.goto (-25), 3) := by decide +kernel
theorem dX9_strike_76 : decode cX9_strike 76 = .ok (.aload_n 0, 1) := by decide +kernel
theorem dX9_strike_77 : decode cX9_strike 77 = .ok (.iload_n 2, 1) := by decide +kernel
theorem dX9_strike_78 : decode cX9_strike 78 = .ok (.invokevirtual 80, 3) := by decide +kernel
theorem dX9_strike_81 : decode cX9_strike 81 = .ok (.ireturn, 1) := by decide +kernel
theorem dX9_clear_0 : decode cX9_clear 0 = .ok (.aload_n 0, 1) := by decide +kernel
theorem dX9_clear_1 : decode cX9_clear 1 = .ok (.iconst 0, 1) := by decide +kernel
theorem dX9_clear_2 : decode cX9_clear 2 = .ok (.putfield 26, 3) := by decide +kernel
theorem dX9_clear_5 : decode cX9_clear 5 = .ok (.aload_n 0, 1) := by decide +kernel
theorem dX9_clear_6 : decode cX9_clear 6 = .ok (.getfield 123, 3) := by decide +kernel
theorem dX9_clear_9 : decode cX9_clear 9 = .ok (.istore_n 1, 1) := by decide +kernel
theorem dX9_clear_10 : decode cX9_clear 10 = .ok (.aload_n 0, 1) := by decide +kernel
theorem dX9_clear_11 : decode cX9_clear 11 = .ok (.iconst 0, 1) := by decide +kernel
theorem dX9_clear_12 : decode cX9_clear 12 = .ok (.putfield 123, 3) := by decide +kernel
theorem dX9_clear_15 : decode cX9_clear 15 = .ok (.aload_n 0, 1) := by decide +kernel
theorem dX9_clear_16 : decode cX9_clear 16 = .ok (.iload_n 1, 1) := by decide +kernel
theorem dX9_clear_17 : decode cX9_clear 17 = .ok (.invokevirtual 80, 3) := by decide +kernel
theorem dX9_clear_20 : decode cX9_clear 20 = .ok (.ireturn, 1) := by decide +kernel
theorem dX9_sort_0 : decode cX9_sort 0 = .ok (.aload_n 0, 1) := by decide +kernel
theorem dX9_sort_1 : decode cX9_sort 1 = .ok (.iconst 0, 1) := by decide +kernel
theorem dX9_sort_2 : decode cX9_sort 2 = .ok (.putfield 26, 3) := by decide +kernel
theorem dX9_sort_5 : decode cX9_sort 5 = .ok (.aload_n 0, 1) := by decide +kernel
theorem dX9_sort_6 : decode cX9_sort 6 = .ok (.getfield 123, 3) := by decide +kernel
theorem dX9_sort_9 : decode cX9_sort 9 = .ok (.newarray .long, 2) := by decide +kernel
theorem dX9_sort_11 : decode cX9_sort 11 = .ok (.astore_n 2, 1) := by decide +kernel
theorem dX9_sort_12 : decode cX9_sort 12 = .ok (.iconst 0, 1) := by decide +kernel
theorem dX9_sort_13 : decode cX9_sort 13 = .ok (.istore_n 3, 1) := by decide +kernel
theorem dX9_sort_14 : decode cX9_sort 14 = .ok (.iload_n 3, 1) := by decide +kernel
theorem dX9_sort_15 : decode cX9_sort 15 = .ok (.aload_n 0, 1) := by decide +kernel
theorem dX9_sort_16 : decode cX9_sort 16 = .ok (.getfield 123, 3) := by decide +kernel
theorem dX9_sort_19 : decode cX9_sort 19 = .ok (.if_icmp .ge 114, 3) := by decide +kernel
theorem dX9_sort_22 : decode cX9_sort 22 = .ok (.iconst 0, 1) := by decide +kernel
theorem dX9_sort_23 : decode cX9_sort 23 = .ok (.istore 4, 2) := by decide +kernel
theorem dX9_sort_25 : decode cX9_sort 25 = .ok (.iconst 0, 1) := by decide +kernel
theorem dX9_sort_26 : decode cX9_sort 26 = .ok (.istore 5, 2) := by decide +kernel
theorem dX9_sort_28 : decode cX9_sort 28 = .ok (.iload 5, 2) := by decide +kernel
theorem dX9_sort_30 : decode cX9_sort 30 = .ok (.aload_n 0, 1) := by decide +kernel
theorem dX9_sort_31 : decode cX9_sort 31 = .ok (.getfield 123, 3) := by decide +kernel
theorem dX9_sort_34 : decode cX9_sort 34 = .ok (.if_icmp .ge 83, 3) := by decide +kernel
theorem dX9_sort_37 : decode cX9_sort 37 = .ok (.iload 4, 2) := by decide +kernel
theorem dX9_sort_39 : decode cX9_sort 39 = .ok (.iload_n 1, 1) := by decide +kernel
theorem dX9_sort_40 : decode cX9_sort 40 = .ok (.ifCond .eq 23, 3) := by decide +kernel
theorem dX9_sort_43 : decode cX9_sort 43 = .ok (.aload_n 0, 1) := by decide +kernel
theorem dX9_sort_44 : decode cX9_sort 44 = .ok (.getfield 13, 3) := by decide +kernel
theorem dX9_sort_47 : decode cX9_sort 47 = .ok (.iload 5, 2) := by decide +kernel
theorem dX9_sort_49 : decode cX9_sort 49 = .ok (.laload, 1) := by decide +kernel
theorem dX9_sort_50 : decode cX9_sort 50 = .ok (.aload_n 0, 1) := by decide +kernel
theorem dX9_sort_51 : decode cX9_sort 51 = .ok (.getfield 13, 3) := by decide +kernel
theorem dX9_sort_54 : decode cX9_sort 54 = .ok (.iload_n 3, 1) := by decide +kernel
theorem dX9_sort_55 : decode cX9_sort 55 = .ok (.laload, 1) := by decide +kernel
theorem dX9_sort_56 : decode cX9_sort 56 = .ok (.lcmp, 1) := by decide +kernel
theorem dX9_sort_57 : decode cX9_sort 57 = .ok (.ifCond .le 23, 3) := by decide +kernel
theorem dX9_sort_60 : decode cX9_sort 60 = .ok (.goto 43, 3) := by decide +kernel
theorem dX9_sort_63 : decode cX9_sort 63 = .ok (.aload_n 0, 1) := by decide +kernel
theorem dX9_sort_64 : decode cX9_sort 64 = .ok (.getfield 13, 3) := by decide +kernel
theorem dX9_sort_67 : decode cX9_sort 67 = .ok (.iload 5, 2) := by decide +kernel
theorem dX9_sort_69 : decode cX9_sort 69 = .ok (.laload, 1) := by decide +kernel
theorem dX9_sort_70 : decode cX9_sort 70 = .ok (.aload_n 0, 1) := by decide +kernel
theorem dX9_sort_71 : decode cX9_sort 71 = .ok (.getfield 13, 3) := by decide +kernel
theorem dX9_sort_74 : decode cX9_sort 74 = .ok (.iload_n 3, 1) := by decide +kernel
theorem dX9_sort_75 : decode cX9_sort 75 = .ok (.laload, 1) := by decide +kernel
theorem dX9_sort_76 : decode cX9_sort 76 = .ok (.lcmp, 1) := by decide +kernel
theorem dX9_sort_77 : decode cX9_sort 77 = .ok (.ifCond .lt 26, 3) := by decide +kernel
theorem dX9_sort_80 : decode cX9_sort 80 = .ok (.aload_n 0, 1) := by decide +kernel
theorem dX9_sort_81 : decode cX9_sort 81 = .ok (.getfield 13, 3) := by decide +kernel
theorem dX9_sort_84 : decode cX9_sort 84 = .ok (.iload 5, 2) := by decide +kernel
theorem dX9_sort_86 : decode cX9_sort 86 = .ok (.laload, 1) := by decide +kernel
theorem dX9_sort_87 : decode cX9_sort 87 = .ok (.aload_n 0, 1) := by decide +kernel
theorem dX9_sort_88 : decode cX9_sort 88 = .ok (.getfield 13, 3) := by decide +kernel
theorem dX9_sort_91 : decode cX9_sort 91 = .ok (.iload_n 3, 1) := by decide +kernel
theorem dX9_sort_92 : decode cX9_sort 92 = .ok (.laload, 1) := by decide +kernel
theorem dX9_sort_93 : decode cX9_sort 93 = .ok (.lcmp, 1) := by decide +kernel
theorem dX9_sort_94 : decode cX9_sort 94 = .ok (.ifCond .ne 13, 3) := by decide +kernel
theorem dX9_sort_97 : decode cX9_sort 97 = .ok (.iload 5, 2) := by decide +kernel
theorem dX9_sort_99 : decode cX9_sort 99 = .ok (.iload_n 3, 1) := by decide +kernel
theorem dX9_sort_100 : decode cX9_sort 100 = .ok (.if_icmp .ge 7, 3) := by decide +kernel
theorem dX9_sort_103 : decode cX9_sort 103 = .ok (.iconst 1, 1) := by decide +kernel
theorem dX9_sort_104 : decode cX9_sort 104 = .ok (.goto 4, 3) := by decide +kernel
theorem dX9_sort_107 : decode cX9_sort 107 = .ok (.iconst 0, 1) := by decide +kernel
theorem dX9_sort_108 : decode cX9_sort 108 = .ok (.iadd, 1) := by decide +kernel
theorem dX9_sort_109 : decode cX9_sort 109 = .ok (.istore 4, 2) := by decide +kernel
theorem dX9_sort_111 : decode cX9_sort 111 = .ok (.iinc 5 1, 3) := by decide +kernel
theorem dX9_sort_114 : decode cX9_sort 114 = .ok (.goto (-86), 3) := by decide +kernel
theorem dX9_sort_117 : decode cX9_sort 117 = .ok (.aload_n 2, 1) := by decide +kernel
theorem dX9_sort_118 : decode cX9_sort 118 = .ok (.iload 4, 2) := by decide +kernel
theorem dX9_sort_120 : decode cX9_sort 120 = .ok (.aload_n 0, 1) := by decide +kernel
theorem dX9_sort_121 : decode cX9_sort 121 = .ok (.getfield 13, 3) := by decide +kernel
theorem dX9_sort_124 : decode cX9_sort 124 = .ok (.iload_n 3, 1) := by decide +kernel
theorem dX9_sort_125 : decode cX9_sort 125 = .ok (.laload, 1) := by decide +kernel
theorem dX9_sort_126 : decode cX9_sort 126 = .ok (.lastore, 1) := by decide +kernel
theorem dX9_sort_127 : decode cX9_sort 127 = .ok (.iinc 3 1, 3) := by decide +kernel
theorem dX9_sort_130 : decode cX9_sort 130 = .ok (.goto (-116), 3) := by decide +kernel
theorem dX9_sort_133 : decode cX9_sort 133 = .ok (.iconst 0, 1) := by decide +kernel
theorem dX9_sort_134 : decode cX9_sort 134 = .ok (.istore_n 3, 1) := by decide +kernel
theorem dX9_sort_135 : decode cX9_sort 135 = .ok (.iconst 0, 1) := by decide +kernel
theorem dX9_sort_136 : decode cX9_sort 136 = .ok (.istore 4, 2) := by decide +kernel
theorem dX9_sort_138 : decode cX9_sort 138 = .ok (.iload 4, 2) := by decide +kernel
theorem dX9_sort_140 : decode cX9_sort 140 = .ok (.aload_n 0, 1) := by decide +kernel
theorem dX9_sort_141 : decode cX9_sort 141 = .ok (.getfield 123, 3) := by decide +kernel
theorem dX9_sort_144 : decode cX9_sort 144 = .ok (.if_icmp .ge 43, 3) := by decide +kernel
theorem dX9_sort_147 : decode cX9_sort 147 = .ok (.iload_n 3, 1) := by decide +kernel
theorem dX9_sort_148 : decode cX9_sort 148 = .ok (.aload_n 2, 1) := by decide +kernel
theorem dX9_sort_149 : decode cX9_sort 149 = .ok (.iload 4, 2) := by decide +kernel
theorem dX9_sort_151 : decode cX9_sort 151 = .ok (.laload, 1) := by decide +kernel
theorem dX9_sort_152 : decode cX9_sort 152 = .ok (.aload_n 0, 1) := by decide +kernel
theorem dX9_sort_153 : decode cX9_sort 153 = .ok (.getfield 13, 3) := by decide +kernel
theorem dX9_sort_156 : decode cX9_sort 156 = .ok (.iload 4, 2) := by decide +kernel
theorem dX9_sort_158 : decode cX9_sort 158 = .ok (.laload, 1) := by decide +kernel
theorem dX9_sort_159 : decode cX9_sort 159 = .ok (.lcmp, 1) := by decide +kernel
theorem dX9_sort_160 : decode cX9_sort 160 = .ok (.ifCond .ne 7, 3) := by decide +kernel
theorem dX9_sort_163 : decode cX9_sort 163 = .ok (.iconst 0, 1) := by decide +kernel
theorem dX9_sort_164 : decode cX9_sort 164 = .ok (.goto 4, 3) := by decide +kernel
theorem dX9_sort_167 : decode cX9_sort 167 = .ok (.iconst 1, 1) := by decide +kernel
theorem dX9_sort_168 : decode cX9_sort 168 = .ok (.iadd, 1) := by decide +kernel
theorem dX9_sort_169 : decode cX9_sort 169 = .ok (.istore_n 3, 1) := by decide +kernel
theorem dX9_sort_170 : decode cX9_sort 170 = .ok (.aload_n 0, 1) := by decide +kernel
theorem dX9_sort_171 : decode cX9_sort 171 = .ok (.getfield 13, 3) := by decide +kernel
theorem dX9_sort_174 : decode cX9_sort 174 = .ok (.iload 4, 2) := by decide +kernel
theorem dX9_sort_176 : decode cX9_sort 176 = .ok (.aload_n 2, 1) := by decide +kernel
theorem dX9_sort_177 : decode cX9_sort 177 = .ok (.iload 4, 2) := by decide +kernel
theorem dX9_sort_179 : decode cX9_sort 179 = .ok (.laload, 1) := by decide +kernel
theorem dX9_sort_180 : decode cX9_sort 180 = .ok (.lastore, 1) := by decide +kernel
theorem dX9_sort_181 : decode cX9_sort 181 = .ok (.iinc 4 1, 3) := by decide +kernel
theorem dX9_sort_184 : decode cX9_sort 184 = .ok (.goto (-46), 3) := by decide +kernel
theorem dX9_sort_187 : decode cX9_sort 187 = .ok (.aload_n 0, 1) := by decide +kernel
theorem dX9_sort_188 : decode cX9_sort 188 = .ok (.iload_n 3, 1) := by decide +kernel
theorem dX9_sort_189 : decode cX9_sort 189 = .ok (.invokevirtual 80, 3) := by decide +kernel
theorem dX9_sort_192 : decode cX9_sort 192 = .ok (.ireturn, 1) := by decide +kernel
theorem dX9_turnAll_0 : decode cX9_turnAll 0 = .ok (.aload_n 0, 1) := by decide +kernel
theorem dX9_turnAll_1 : decode cX9_turnAll 1 = .ok (.iconst 0, 1) := by decide +kernel
theorem dX9_turnAll_2 : decode cX9_turnAll 2 = .ok (.putfield 26, 3) := by decide +kernel
theorem dX9_turnAll_5 : decode cX9_turnAll 5 = .ok (.iconst 0, 1) := by decide +kernel
theorem dX9_turnAll_6 : decode cX9_turnAll 6 = .ok (.istore_n 1, 1) := by decide +kernel
theorem dX9_turnAll_7 : decode cX9_turnAll 7 = .ok (.iconst 0, 1) := by decide +kernel
theorem dX9_turnAll_8 : decode cX9_turnAll 8 = .ok (.istore_n 2, 1) := by decide +kernel
theorem dX9_turnAll_9 : decode cX9_turnAll 9 = .ok (.iload_n 2, 1) := by decide +kernel
theorem dX9_turnAll_10 : decode cX9_turnAll 10 = .ok (.aload_n 0, 1) := by decide +kernel
theorem dX9_turnAll_11 : decode cX9_turnAll 11 = .ok (.getfield 123, 3) := by decide +kernel
theorem dX9_turnAll_14 : decode cX9_turnAll 14 = .ok (.if_icmp .ge 45, 3) := by decide +kernel
theorem dX9_turnAll_17 : decode cX9_turnAll 17 = .ok (.aload_n 0, 1) := by decide +kernel
theorem dX9_turnAll_18 : decode cX9_turnAll 18 = .ok (.getfield 13, 3) := by decide +kernel
theorem dX9_turnAll_21 : decode cX9_turnAll 21 = .ok (.iload_n 2, 1) := by decide +kernel
theorem dX9_turnAll_22 : decode cX9_turnAll 22 = .ok (.laload, 1) := by decide +kernel
theorem dX9_turnAll_23 : decode cX9_turnAll 23 = .ok (.invokestatic 97, 3) := by decide +kernel
theorem dX9_turnAll_26 : decode cX9_turnAll 26 = .ok (.lstore_n 3, 1) := by decide +kernel
theorem dX9_turnAll_27 : decode cX9_turnAll 27 = .ok (.iload_n 1, 1) := by decide +kernel
theorem dX9_turnAll_28 : decode cX9_turnAll 28 = .ok (.lload_n 3, 1) := by decide +kernel
theorem dX9_turnAll_29 : decode cX9_turnAll 29 = .ok (.aload_n 0, 1) := by decide +kernel
theorem dX9_turnAll_30 : decode cX9_turnAll 30 = .ok (.getfield 13, 3) := by decide +kernel
theorem dX9_turnAll_33 : decode cX9_turnAll 33 = .ok (.iload_n 2, 1) := by decide +kernel
theorem dX9_turnAll_34 : decode cX9_turnAll 34 = .ok (.laload, 1) := by decide +kernel
theorem dX9_turnAll_35 : decode cX9_turnAll 35 = .ok (.lcmp, 1) := by decide +kernel
theorem dX9_turnAll_36 : decode cX9_turnAll 36 = .ok (.ifCond .ne 7, 3) := by decide +kernel
theorem dX9_turnAll_39 : decode cX9_turnAll 39 = .ok (.iconst 0, 1) := by decide +kernel
theorem dX9_turnAll_40 : decode cX9_turnAll 40 = .ok (.goto 4, 3) := by decide +kernel
theorem dX9_turnAll_43 : decode cX9_turnAll 43 = .ok (.iconst 1, 1) := by decide +kernel
theorem dX9_turnAll_44 : decode cX9_turnAll 44 = .ok (.iadd, 1) := by decide +kernel
theorem dX9_turnAll_45 : decode cX9_turnAll 45 = .ok (.istore_n 1, 1) := by decide +kernel
theorem dX9_turnAll_46 : decode cX9_turnAll 46 = .ok (.aload_n 0, 1) := by decide +kernel
theorem dX9_turnAll_47 : decode cX9_turnAll 47 = .ok (.getfield 13, 3) := by decide +kernel
theorem dX9_turnAll_50 : decode cX9_turnAll 50 = .ok (.iload_n 2, 1) := by decide +kernel
theorem dX9_turnAll_51 : decode cX9_turnAll 51 = .ok (.lload_n 3, 1) := by decide +kernel
theorem dX9_turnAll_52 : decode cX9_turnAll 52 = .ok (.lastore, 1) := by decide +kernel
theorem dX9_turnAll_53 : decode cX9_turnAll 53 = .ok (.iinc 2 1, 3) := by decide +kernel
theorem dX9_turnAll_56 : decode cX9_turnAll 56 = .ok (.goto (-47), 3) := by decide +kernel
theorem dX9_turnAll_59 : decode cX9_turnAll 59 = .ok (.aload_n 0, 1) := by decide +kernel
theorem dX9_turnAll_60 : decode cX9_turnAll 60 = .ok (.iload_n 1, 1) := by decide +kernel
theorem dX9_turnAll_61 : decode cX9_turnAll 61 = .ok (.invokevirtual 80, 3) := by decide +kernel
theorem dX9_turnAll_64 : decode cX9_turnAll 64 = .ok (.ireturn, 1) := by decide +kernel
theorem dX9_take_0 : decode cX9_take 0 = .ok (.aload_n 0, 1) := by decide +kernel
theorem dX9_take_1 : decode cX9_take 1 = .ok (.iload_n 1, 1) := by decide +kernel
theorem dX9_take_2 : decode cX9_take 2 = .ok (.ifCond .lt 18, 3) := by decide +kernel
theorem dX9_take_5 : decode cX9_take 5 = .ok (.iload_n 1, 1) := by decide +kernel
theorem dX9_take_6 : decode cX9_take 6 = .ok (.aload_n 0, 1) := by decide +kernel
theorem dX9_take_7 : decode cX9_take 7 = .ok (.getfield 123, 3) := by decide +kernel
theorem dX9_take_10 : decode cX9_take 10 = .ok (.if_icmp .ge 10, 3) := by decide +kernel
theorem dX9_take_13 : decode cX9_take 13 = .ok (.iload_n 2, 1) := by decide +kernel
theorem dX9_take_14 : decode cX9_take 14 = .ok (.invokestatic 67, 3) := by decide +kernel
theorem dX9_take_17 : decode cX9_take 17 = .ok (.ifCond .ne 7, 3) := by decide +kernel
theorem dX9_take_20 : decode cX9_take 20 = .ok (.iconst 1, 1) := by decide +kernel
theorem dX9_take_21 : decode cX9_take 21 = .ok (.goto 4, 3) := by decide +kernel
theorem dX9_take_24 : decode cX9_take 24 = .ok (.iconst 0, 1) := by decide +kernel
theorem dX9_take_25 : decode cX9_take 25 = .ok (.invokevirtual 71, 3) := by decide +kernel
theorem dX9_take_28 : decode cX9_take 28 = .ok (.ifCond .eq 7, 3) := by decide +kernel
theorem dX9_take_31 : decode cX9_take 31 = .ok (.iconst 0, 1) := by decide +kernel
theorem dX9_take_32 : decode cX9_take 32 = .ok (.goto 14, 3) := by decide +kernel
theorem dX9_take_35 : decode cX9_take 35 = .ok (.aload_n 0, 1) := by decide +kernel
theorem dX9_take_36 : decode cX9_take 36 = .ok (.iload_n 2, 1) := by decide +kernel
theorem dX9_take_37 : decode cX9_take 37 = .ok (.aload_n 0, 1) := by decide +kernel
theorem dX9_take_38 : decode cX9_take 38 = .ok (.getfield 13, 3) := by decide +kernel
theorem dX9_take_41 : decode cX9_take 41 = .ok (.iload_n 1, 1) := by decide +kernel
theorem dX9_take_42 : decode cX9_take 42 = .ok (.laload, 1) := by decide +kernel
theorem dX9_take_43 : decode cX9_take 43 = .ok (.invokevirtual 89, 3) := by decide +kernel
theorem dX9_take_46 : decode cX9_take 46 = .ok (.ireturn, 1) := by decide +kernel
theorem dX9_product_0 : decode cX9_product 0 = .ok (.aload_n 0, 1) := by decide +kernel
theorem dX9_product_1 : decode cX9_product 1 = .ok (.iload_n 1, 1) := by decide +kernel
theorem dX9_product_2 : decode cX9_product 2 = .ok (.invokestatic 67, 3) := by decide +kernel
theorem dX9_product_5 : decode cX9_product 5 = .ok (.ifCond .ne 7, 3) := by decide +kernel
theorem dX9_product_8 : decode cX9_product 8 = .ok (.iconst 1, 1) := by decide +kernel
theorem dX9_product_9 : decode cX9_product 9 = .ok (.goto 4, 3) := by decide +kernel
theorem dX9_product_12 : decode cX9_product 12 = .ok (.iconst 0, 1) := by decide +kernel
theorem dX9_product_13 : decode cX9_product 13 = .ok (.invokevirtual 71, 3) := by decide +kernel
theorem dX9_product_16 : decode cX9_product 16 = .ok (.ifCond .eq 5, 3) := by decide +kernel
theorem dX9_product_19 : decode cX9_product 19 = .ok (.iconst 0, 1) := by decide +kernel
theorem dX9_product_20 : decode cX9_product 20 = .ok (.ireturn, 1) := by decide +kernel
theorem dX9_product_21 : decode cX9_product 21 = .ok (.iconst 0, 1) := by decide +kernel
theorem dX9_product_22 : decode cX9_product 22 = .ok (.istore_n 2, 1) := by decide +kernel
theorem dX9_product_23 : decode cX9_product 23 = .ok (.iconst 0, 1) := by decide +kernel
theorem dX9_product_24 : decode cX9_product 24 = .ok (.istore_n 3, 1) := by decide +kernel
theorem dX9_product_25 : decode cX9_product 25 = .ok (.iconst 0, 1) := by decide +kernel
theorem dX9_product_26 : decode cX9_product 26 = .ok (.istore 4, 2) := by decide +kernel
theorem dX9_product_28 : decode cX9_product 28 = .ok (.iload 4, 2) := by decide +kernel
theorem dX9_product_30 : decode cX9_product 30 = .ok (.aload_n 0, 1) := by decide +kernel
theorem dX9_product_31 : decode cX9_product 31 = .ok (.getfield 123, 3) := by decide +kernel
theorem dX9_product_34 : decode cX9_product 34 = .ok (.if_icmp .ge 42, 3) := by decide +kernel
theorem dX9_product_37 : decode cX9_product 37 = .ok (.iload_n 2, 1) := by decide +kernel
theorem dX9_product_38 : decode cX9_product 38 = .ok (.aload_n 0, 1) := by decide +kernel
theorem dX9_product_39 : decode cX9_product 39 = .ok (.getfield 13, 3) := by decide +kernel
theorem dX9_product_42 : decode cX9_product 42 = .ok (.iload 4, 2) := by decide +kernel
theorem dX9_product_44 : decode cX9_product 44 = .ok (.laload, 1) := by decide +kernel
theorem dX9_product_45 : decode cX9_product 45 = .ok (.invokestatic 41, 3) := by decide +kernel
theorem dX9_product_48 : decode cX9_product 48 = .ok (.iadd, 1) := by decide +kernel
theorem dX9_product_49 : decode cX9_product 49 = .ok (.istore_n 2, 1) := by decide +kernel
theorem dX9_product_50 : decode cX9_product 50 = .ok (.iload_n 3, 1) := by decide +kernel
theorem dX9_product_51 : decode cX9_product 51 = .ok (.aload_n 0, 1) := by decide +kernel
theorem dX9_product_52 : decode cX9_product 52 = .ok (.getfield 13, 3) := by decide +kernel
theorem dX9_product_55 : decode cX9_product 55 = .ok (.iload 4, 2) := by decide +kernel
theorem dX9_product_57 : decode cX9_product 57 = .ok (.laload, 1) := by decide +kernel
theorem dX9_product_58 : decode cX9_product 58 = .ok (.lconst 0, 1) := by decide +kernel
theorem dX9_product_59 : decode cX9_product 59 = .ok (.lcmp, 1) := by decide +kernel
theorem dX9_product_60 : decode cX9_product 60 = .ok (.ifCond .ne 7, 3) := by decide +kernel
theorem dX9_product_63 : decode cX9_product 63 = .ok (.iconst 1, 1) := by decide +kernel
theorem dX9_product_64 : decode cX9_product 64 = .ok (.goto 4, 3) := by decide +kernel
theorem dX9_product_67 : decode cX9_product 67 = .ok (.iconst 0, 1) := by decide +kernel
theorem dX9_product_68 : decode cX9_product 68 = .ok (.ior, 1) := by decide +kernel
theorem dX9_product_69 : decode cX9_product 69 = .ok (.istore_n 3, 1) := by decide +kernel
theorem dX9_product_70 : decode cX9_product 70 = .ok (.iinc 4 1, 3) := by decide +kernel
theorem dX9_product_73 : decode cX9_product 73 = .ok (.goto (-45), 3) := by decide +kernel
theorem dX9_product_76 : decode cX9_product 76 = .ok (.iload_n 3, 1) := by decide +kernel
theorem dX9_product_77 : decode cX9_product 77 = .ok (.ifCond .ne 14, 3) := by decide +kernel
theorem dX9_product_80 : decode cX9_product 80 = .ok (.iload_n 2, 1) := by decide +kernel
theorem dX9_product_81 : decode cX9_product 81 = .ok (.bipush 40, 2) := by decide +kernel
theorem dX9_product_83 : decode cX9_product 83 = .ok (.if_icmp .lt 8, 3) := by decide +kernel
theorem dX9_product_86 : decode cX9_product 86 = .ok (.aload_n 0, 1) := by decide +kernel
theorem dX9_product_87 : decode cX9_product 87 = .ok (.invokevirtual 93, 3) := by decide +kernel
theorem dX9_product_90 : decode cX9_product 90 = .ok (.ireturn, 1) := by decide +kernel
theorem dX9_product_91 : decode cX9_product 91 = .ok (.iload_n 3, 1) := by decide +kernel
theorem dX9_product_92 : decode cX9_product 92 = .ok (.ifCond .eq 7, 3) := by decide +kernel
theorem dX9_product_95 : decode cX9_product 95 = .ok (.lconst 0, 1) := by decide +kernel
theorem dX9_product_96 : decode cX9_product 96 = .ok (.goto 4, 3) := by decide +kernel
theorem dX9_product_99 : decode cX9_product 99 = .ok (.lconst 1, 1) := by decide +kernel
theorem dX9_product_100 : decode cX9_product 100 = .ok (.lstore 4, 2) := by decide +kernel
theorem dX9_product_102 : decode cX9_product 102 = .ok (.iconst 0, 1) := by decide +kernel
theorem dX9_product_103 : decode cX9_product 103 = .ok (.istore 6, 2) := by decide +kernel
theorem dX9_product_105 : decode cX9_product 105 = .ok (.iload 6, 2) := by decide +kernel
theorem dX9_product_107 : decode cX9_product 107 = .ok (.aload_n 0, 1) := by decide +kernel
theorem dX9_product_108 : decode cX9_product 108 = .ok (.getfield 123, 3) := by decide +kernel
theorem dX9_product_111 : decode cX9_product 111 = .ok (.if_icmp .ge 27, 3) := by decide +kernel
theorem dX9_product_114 : decode cX9_product 114 = .ok (.iload_n 3, 1) := by decide +kernel
theorem dX9_product_115 : decode cX9_product 115 = .ok (.ifCond .ne 23, 3) := by decide +kernel
theorem dX9_product_118 : decode cX9_product 118 = .ok (.lload 4, 2) := by decide +kernel
theorem dX9_product_120 : decode cX9_product 120 = .ok (.aload_n 0, 1) := by decide +kernel
theorem dX9_product_121 : decode cX9_product 121 = .ok (.getfield 13, 3) := by decide +kernel
theorem dX9_product_124 : decode cX9_product 124 = .ok (.iload 6, 2) := by decide +kernel
theorem dX9_product_126 : decode cX9_product 126 = .ok (.laload, 1) := by decide +kernel
theorem dX9_product_127 : decode cX9_product 127 = .ok (.invokestatic 48, 3) := by decide +kernel
theorem dX9_product_130 : decode cX9_product 130 = .ok (.lstore 4, 2) := by decide +kernel
theorem dX9_product_132 : decode cX9_product 132 = .ok (.iinc 6 1, 3) := by decide +kernel
theorem dX9_product_135 : decode cX9_product 135 = .ok (.goto (-30), 3) := by decide +kernel
theorem dX9_product_138 : decode cX9_product 138 = .ok (.aload_n 0, 1) := by decide +kernel
theorem dX9_product_139 : decode cX9_product 139 = .ok (.iload_n 1, 1) := by decide +kernel
theorem dX9_product_140 : decode cX9_product 140 = .ok (.lload 4, 2) := by decide +kernel
theorem dX9_product_142 : decode cX9_product 142 = .ok (.invokevirtual 89, 3) := by decide +kernel
theorem dX9_product_145 : decode cX9_product 145 = .ok (.ireturn, 1) := by decide +kernel
theorem dX9_start_0 : decode cX9_start 0 = .ok (.aload_n 0, 1) := by decide +kernel
theorem dX9_start_1 : decode cX9_start 1 = .ok (.iload_n 1, 1) := by decide +kernel
theorem dX9_start_2 : decode cX9_start 2 = .ok (.invokestatic 67, 3) := by decide +kernel
theorem dX9_start_5 : decode cX9_start 5 = .ok (.ifCond .ne 7, 3) := by decide +kernel
theorem dX9_start_8 : decode cX9_start 8 = .ok (.iconst 1, 1) := by decide +kernel
theorem dX9_start_9 : decode cX9_start 9 = .ok (.goto 4, 3) := by decide +kernel
theorem dX9_start_12 : decode cX9_start 12 = .ok (.iconst 0, 1) := by decide +kernel
theorem dX9_start_13 : decode cX9_start 13 = .ok (.invokevirtual 71, 3) := by decide +kernel
theorem dX9_start_16 : decode cX9_start 16 = .ok (.ifCond .eq 5, 3) := by decide +kernel
theorem dX9_start_19 : decode cX9_start 19 = .ok (.iconst 0, 1) := by decide +kernel
theorem dX9_start_20 : decode cX9_start 20 = .ok (.ireturn, 1) := by decide +kernel
theorem dX9_start_21 : decode cX9_start 21 = .ok (.aload_n 0, 1) := by decide +kernel
theorem dX9_start_22 : decode cX9_start 22 = .ok (.getfield 9, 3) := by decide +kernel
theorem dX9_start_25 : decode cX9_start 25 = .ok (.iload_n 1, 1) := by decide +kernel
theorem dX9_start_26 : decode cX9_start 26 = .ok (.laload, 1) := by decide +kernel
theorem dX9_start_27 : decode cX9_start 27 = .ok (.invokestatic 129, 3) := by decide +kernel
theorem dX9_start_30 : decode cX9_start 30 = .ok (.ifCond .ne 8, 3) := by decide +kernel
theorem dX9_start_33 : decode cX9_start 33 = .ok (.aload_n 0, 1) := by decide +kernel
theorem dX9_start_34 : decode cX9_start 34 = .ok (.invokevirtual 93, 3) := by decide +kernel
theorem dX9_start_37 : decode cX9_start 37 = .ok (.ireturn, 1) := by decide +kernel
theorem dX9_start_38 : decode cX9_start 38 = .ok (.aload_n 0, 1) := by decide +kernel
theorem dX9_start_39 : decode cX9_start 39 = .ok (.aload_n 0, 1) := by decide +kernel
theorem dX9_start_40 : decode cX9_start 40 = .ok (.getfield 9, 3) := by decide +kernel
theorem dX9_start_43 : decode cX9_start 43 = .ok (.iload_n 1, 1) := by decide +kernel
theorem dX9_start_44 : decode cX9_start 44 = .ok (.laload, 1) := by decide +kernel
theorem dX9_start_45 : decode cX9_start 45 = .ok (.putfield 18, 3) := by decide +kernel
theorem dX9_start_48 : decode cX9_start 48 = .ok (.aload_n 0, 1) := by decide +kernel
theorem dX9_start_49 : decode cX9_start 49 = .ok (.iconst 1, 1) := by decide +kernel
theorem dX9_start_50 : decode cX9_start 50 = .ok (.aload_n 0, 1) := by decide +kernel
theorem dX9_start_51 : decode cX9_start 51 = .ok (.getfield 18, 3) := by decide +kernel
theorem dX9_start_54 : decode cX9_start 54 = .ok (.invokestatic 41, 3) := by decide +kernel
theorem dX9_start_57 : decode cX9_start 57 = .ok (.iconst 1, 1) := by decide +kernel
theorem dX9_start_58 : decode cX9_start 58 = .ok (.isub, 1) := by decide +kernel
theorem dX9_start_59 : decode cX9_start 59 = .ok (.ishl, 1) := by decide +kernel
theorem dX9_start_60 : decode cX9_start 60 = .ok (.putfield 22, 3) := by decide +kernel
theorem dX9_start_63 : decode cX9_start 63 = .ok (.aload_n 0, 1) := by decide +kernel
theorem dX9_start_64 : decode cX9_start 64 = .ok (.aload_n 0, 1) := by decide +kernel
theorem dX9_start_65 : decode cX9_start 65 = .ok (.getfield 18, 3) := by decide +kernel
theorem dX9_start_68 : decode cX9_start 68 = .ok (.invokestatic 41, 3) := by decide +kernel
theorem dX9_start_71 : decode cX9_start 71 = .ok (.invokevirtual 80, 3) := by decide +kernel
theorem dX9_start_74 : decode cX9_start 74 = .ok (.ireturn, 1) := by decide +kernel
theorem dX9_step_0 : decode cX9_step 0 = .ok (.aload_n 0, 1) := by decide +kernel
theorem dX9_step_1 : decode cX9_step 1 = .ok (.iload_n 1, 1) := by decide +kernel
theorem dX9_step_2 : decode cX9_step 2 = .ok (.ifCond .lt 10, 3) := by decide +kernel
theorem dX9_step_5 : decode cX9_step 5 = .ok (.iload_n 1, 1) := by decide +kernel
theorem dX9_step_6 : decode cX9_step 6 = .ok (.sipush 255, 3) := by decide +kernel
theorem dX9_step_9 : decode cX9_step 9 = .ok (.if_icmp .le 7, 3) := by decide +kernel
theorem dX9_step_12 : decode cX9_step 12 = .ok (.iconst 1, 1) := by decide +kernel
theorem dX9_step_13 : decode cX9_step 13 = .ok (.goto 4, 3) := by decide +kernel
theorem dX9_step_16 : decode cX9_step 16 = .ok (.iconst 0, 1) := by decide +kernel
theorem dX9_step_17 : decode cX9_step 17 = .ok (.invokevirtual 71, 3) := by decide +kernel
theorem dX9_step_20 : decode cX9_step 20 = .ok (.ifCond .eq 5, 3) := by decide +kernel
theorem dX9_step_23 : decode cX9_step 23 = .ok (.iconst 0, 1) := by decide +kernel
theorem dX9_step_24 : decode cX9_step 24 = .ok (.ireturn, 1) := by decide +kernel
theorem dX9_step_25 : decode cX9_step 25 = .ok (.iconst 0, 1) := by decide +kernel
theorem dX9_step_26 : decode cX9_step 26 = .ok (.istore_n 2, 1) := by decide +kernel
theorem dX9_step_27 : decode cX9_step 27 = .ok (.iconst 0, 1) := by decide +kernel
theorem dX9_step_28 : decode cX9_step 28 = .ok (.istore_n 3, 1) := by decide +kernel
theorem dX9_step_29 : decode cX9_step 29 = .ok (.iload_n 3, 1) := by decide +kernel
theorem dX9_step_30 : decode cX9_step 30 = .ok (.iload_n 1, 1) := by decide +kernel
theorem dX9_step_31 : decode cX9_step 31 = .ok (.if_icmp .ge 30, 3) := by decide +kernel
theorem dX9_step_34 : decode cX9_step 34 = .ok (.iload_n 2, 1) := by decide +kernel
theorem dX9_step_35 : decode cX9_step 35 = .ok (.aload_n 0, 1) := by decide +kernel
theorem dX9_step_36 : decode cX9_step 36 = .ok (.getfield 22, 3) := by decide +kernel
theorem dX9_step_39 : decode cX9_step 39 = .ok (.iconst 1, 1) := by decide +kernel
theorem dX9_step_40 : decode cX9_step 40 = .ok (.iand, 1) := by decide +kernel
theorem dX9_step_41 : decode cX9_step 41 = .ok (.iadd, 1) := by decide +kernel
theorem dX9_step_42 : decode cX9_step 42 = .ok (.istore_n 2, 1) := by decide +kernel
theorem dX9_step_43 : decode cX9_step 43 = .ok (.aload_n 0, 1) := by decide +kernel
theorem dX9_step_44 : decode cX9_step 44 = .ok (.aload_n 0, 1) := by decide +kernel
theorem dX9_step_45 : decode cX9_step 45 = .ok (.aload_n 0, 1) := by decide +kernel
theorem dX9_step_46 : decode cX9_step 46 = .ok (.getfield 22, 3) := by decide +kernel
theorem dX9_step_49 : decode cX9_step 49 = .ok (.invokevirtual 132, 3) := by decide +kernel
theorem dX9_step_52 : decode cX9_step 52 = .ok (.putfield 22, 3) := by decide +kernel
theorem dX9_step_55 : decode cX9_step 55 = .ok (.iinc 3 1, 3) := by decide +kernel
theorem dX9_step_58 : decode cX9_step 58 = .ok (.goto (-29), 3) := by decide +kernel
theorem dX9_step_61 : decode cX9_step 61 = .ok (.aload_n 0, 1) := by decide +kernel
theorem dX9_step_62 : decode cX9_step 62 = .ok (.iload_n 2, 1) := by decide +kernel
theorem dX9_step_63 : decode cX9_step 63 = .ok (.invokevirtual 80, 3) := by decide +kernel
theorem dX9_step_66 : decode cX9_step 66 = .ok (.ireturn, 1) := by decide +kernel
theorem dX9_load_0 : decode cX9_load 0 = .ok (.aload_n 0, 1) := by decide +kernel
theorem dX9_load_1 : decode cX9_load 1 = .ok (.iload_n 1, 1) := by decide +kernel
theorem dX9_load_2 : decode cX9_load 2 = .ok (.ifCond .lt 10, 3) := by decide +kernel
theorem dX9_load_5 : decode cX9_load 5 = .ok (.iload_n 1, 1) := by decide +kernel
theorem dX9_load_6 : decode cX9_load 6 = .ok (.sipush 255, 3) := by decide +kernel
theorem dX9_load_9 : decode cX9_load 9 = .ok (.if_icmp .le 7, 3) := by decide +kernel
theorem dX9_load_12 : decode cX9_load 12 = .ok (.iconst 1, 1) := by decide +kernel
theorem dX9_load_13 : decode cX9_load 13 = .ok (.goto 4, 3) := by decide +kernel
theorem dX9_load_16 : decode cX9_load 16 = .ok (.iconst 0, 1) := by decide +kernel
theorem dX9_load_17 : decode cX9_load 17 = .ok (.invokevirtual 71, 3) := by decide +kernel
theorem dX9_load_20 : decode cX9_load 20 = .ok (.ifCond .eq 5, 3) := by decide +kernel
theorem dX9_load_23 : decode cX9_load 23 = .ok (.iconst 0, 1) := by decide +kernel
theorem dX9_load_24 : decode cX9_load 24 = .ok (.ireturn, 1) := by decide +kernel
theorem dX9_load_25 : decode cX9_load 25 = .ok (.iload_n 1, 1) := by decide +kernel
theorem dX9_load_26 : decode cX9_load 26 = .ok (.aload_n 0, 1) := by decide +kernel
theorem dX9_load_27 : decode cX9_load 27 = .ok (.getfield 18, 3) := by decide +kernel
theorem dX9_load_30 : decode cX9_load 30 = .ok (.invokestatic 41, 3) := by decide +kernel
theorem dX9_load_33 : decode cX9_load 33 = .ok (.ishr, 1) := by decide +kernel
theorem dX9_load_34 : decode cX9_load 34 = .ok (.ifCond .le 8, 3) := by decide +kernel
theorem dX9_load_37 : decode cX9_load 37 = .ok (.aload_n 0, 1) := by decide +kernel
theorem dX9_load_38 : decode cX9_load 38 = .ok (.invokevirtual 93, 3) := by decide +kernel
theorem dX9_load_41 : decode cX9_load 41 = .ok (.ireturn, 1) := by decide +kernel
theorem dX9_load_42 : decode cX9_load 42 = .ok (.aload_n 0, 1) := by decide +kernel
theorem dX9_load_43 : decode cX9_load 43 = .ok (.getfield 22, 3) := by decide +kernel
theorem dX9_load_46 : decode cX9_load 46 = .ok (.iload_n 1, 1) := by decide +kernel
theorem dX9_load_47 : decode cX9_load 47 = .ok (.ixor, 1) := by decide +kernel
theorem dX9_load_48 : decode cX9_load 48 = .ok (.i2l, 1) := by decide +kernel
theorem dX9_load_49 : decode cX9_load 49 = .ok (.invokestatic 60, 3) := by decide +kernel
theorem dX9_load_52 : decode cX9_load 52 = .ok (.istore_n 2, 1) := by decide +kernel
theorem dX9_load_53 : decode cX9_load 53 = .ok (.aload_n 0, 1) := by decide +kernel
theorem dX9_load_54 : decode cX9_load 54 = .ok (.iload_n 1, 1) := by decide +kernel
theorem dX9_load_55 : decode cX9_load 55 = .ok (.putfield 22, 3) := by decide +kernel
theorem dX9_load_58 : decode cX9_load 58 = .ok (.aload_n 0, 1) := by decide +kernel
theorem dX9_load_59 : decode cX9_load 59 = .ok (.iload_n 2, 1) := by decide +kernel
theorem dX9_load_60 : decode cX9_load 60 = .ok (.invokevirtual 80, 3) := by decide +kernel
theorem dX9_load_63 : decode cX9_load 63 = .ok (.ireturn, 1) := by decide +kernel
theorem dX9_degree_0 : decode cX9_degree 0 = .ok (.aload_n 0, 1) := by decide +kernel
theorem dX9_degree_1 : decode cX9_degree 1 = .ok (.iload_n 1, 1) := by decide +kernel
theorem dX9_degree_2 : decode cX9_degree 2 = .ok (.invokestatic 67, 3) := by decide +kernel
theorem dX9_degree_5 : decode cX9_degree 5 = .ok (.ifCond .ne 7, 3) := by decide +kernel
theorem dX9_degree_8 : decode cX9_degree 8 = .ok (.iconst 1, 1) := by decide +kernel
theorem dX9_degree_9 : decode cX9_degree 9 = .ok (.goto 4, 3) := by decide +kernel
theorem dX9_degree_12 : decode cX9_degree 12 = .ok (.iconst 0, 1) := by decide +kernel
theorem dX9_degree_13 : decode cX9_degree 13 = .ok (.invokevirtual 71, 3) := by decide +kernel
theorem dX9_degree_16 : decode cX9_degree 16 = .ok (.ifCond .eq 7, 3) := by decide +kernel
theorem dX9_degree_19 : decode cX9_degree 19 = .ok (.iconst 0, 1) := by decide +kernel
theorem dX9_degree_20 : decode cX9_degree 20 = .ok (.goto 12, 3) := by decide +kernel
theorem dX9_degree_23 : decode cX9_degree 23 = .ok (.aload_n 0, 1) := by decide +kernel
theorem dX9_degree_24 : decode cX9_degree 24 = .ok (.getfield 9, 3) := by decide +kernel
theorem dX9_degree_27 : decode cX9_degree 27 = .ok (.iload_n 1, 1) := by decide +kernel
theorem dX9_degree_28 : decode cX9_degree 28 = .ok (.laload, 1) := by decide +kernel
theorem dX9_degree_29 : decode cX9_degree 29 = .ok (.invokestatic 41, 3) := by decide +kernel
theorem dX9_degree_32 : decode cX9_degree 32 = .ok (.ireturn, 1) := by decide +kernel
theorem dX9_code_0 : decode cX9_code 0 = .ok (.aload_n 0, 1) := by decide +kernel
theorem dX9_code_1 : decode cX9_code 1 = .ok (.iload_n 1, 1) := by decide +kernel
theorem dX9_code_2 : decode cX9_code 2 = .ok (.invokestatic 67, 3) := by decide +kernel
theorem dX9_code_5 : decode cX9_code 5 = .ok (.ifCond .ne 7, 3) := by decide +kernel
theorem dX9_code_8 : decode cX9_code 8 = .ok (.iconst 1, 1) := by decide +kernel
theorem dX9_code_9 : decode cX9_code 9 = .ok (.goto 4, 3) := by decide +kernel
theorem dX9_code_12 : decode cX9_code 12 = .ok (.iconst 0, 1) := by decide +kernel
theorem dX9_code_13 : decode cX9_code 13 = .ok (.invokevirtual 71, 3) := by decide +kernel
theorem dX9_code_16 : decode cX9_code 16 = .ok (.ifCond .eq 7, 3) := by decide +kernel
theorem dX9_code_19 : decode cX9_code 19 = .ok (.iconst 0, 1) := by decide +kernel
theorem dX9_code_20 : decode cX9_code 20 = .ok (.goto 29, 3) := by decide +kernel
theorem dX9_code_23 : decode cX9_code 23 = .ok (.aload_n 0, 1) := by decide +kernel
theorem dX9_code_24 : decode cX9_code 24 = .ok (.getfield 9, 3) := by decide +kernel
theorem dX9_code_27 : decode cX9_code 27 = .ok (.iload_n 1, 1) := by decide +kernel
theorem dX9_code_28 : decode cX9_code 28 = .ok (.laload, 1) := by decide +kernel
theorem dX9_code_29 : decode cX9_code 29 = .ok (.invokestatic 41, 3) := by decide +kernel
theorem dX9_code_32 : decode cX9_code 32 = .ok (.bipush 30, 2) := by decide +kernel
theorem dX9_code_34 : decode cX9_code 34 = .ok (.if_icmp .le 8, 3) := by decide +kernel
theorem dX9_code_37 : decode cX9_code 37 = .ok (.bipush (-9), 2) := by decide +kernel
theorem dX9_code_39 : decode cX9_code 39 = .ok (.goto 10, 3) := by decide +kernel
theorem dX9_code_42 : decode cX9_code 42 = .ok (.aload_n 0, 1) := by decide +kernel
theorem dX9_code_43 : decode cX9_code 43 = .ok (.getfield 9, 3) := by decide +kernel
theorem dX9_code_46 : decode cX9_code 46 = .ok (.iload_n 1, 1) := by decide +kernel
theorem dX9_code_47 : decode cX9_code 47 = .ok (.laload, 1) := by decide +kernel
theorem dX9_code_48 : decode cX9_code 48 = .ok (.l2i, 1) := by decide +kernel
theorem dX9_code_49 : decode cX9_code 49 = .ok (.ireturn, 1) := by decide +kernel
theorem dX9_has_0 : decode cX9_has 0 = .ok (.aload_n 0, 1) := by decide +kernel
theorem dX9_has_1 : decode cX9_has 1 = .ok (.iload_n 1, 1) := by decide +kernel
theorem dX9_has_2 : decode cX9_has 2 = .ok (.invokestatic 67, 3) := by decide +kernel
theorem dX9_has_5 : decode cX9_has 5 = .ok (.ifCond .eq 10, 3) := by decide +kernel
theorem dX9_has_8 : decode cX9_has 8 = .ok (.iload_n 2, 1) := by decide +kernel
theorem dX9_has_9 : decode cX9_has 9 = .ok (.invokestatic 84, 3) := by decide +kernel
theorem dX9_has_12 : decode cX9_has 12 = .ok (.ifCond .ne 7, 3) := by decide +kernel
theorem dX9_has_15 : decode cX9_has 15 = .ok (.iconst 1, 1) := by decide +kernel
theorem dX9_has_16 : decode cX9_has 16 = .ok (.goto 4, 3) := by decide +kernel
theorem dX9_has_19 : decode cX9_has 19 = .ok (.iconst 0, 1) := by decide +kernel
theorem dX9_has_20 : decode cX9_has 20 = .ok (.invokevirtual 71, 3) := by decide +kernel
theorem dX9_has_23 : decode cX9_has 23 = .ok (.ifCond .ne 22, 3) := by decide +kernel
theorem dX9_has_26 : decode cX9_has 26 = .ok (.aload_n 0, 1) := by decide +kernel
