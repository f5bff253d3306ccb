theorem d_M_comeGroup_13 : decode b_M_comeGroup 13 = .ok (.isub, 1) := by decide +kernel
theorem d_M_comeGroup_14 : decode b_M_comeGroup 14 = .ok (.putfield 87, 3) := by decide +kernel
theorem d_M_comeGroup_17 : decode b_M_comeGroup 17 = .ok (.aload_n 0, 1) := by decide +kernel
theorem d_M_comeGroup_18 : decode b_M_comeGroup 18 = .ok (.iconst 0, 1) := by decide +kernel
theorem d_M_comeGroup_19 : decode b_M_comeGroup 19 = .ok (.iload_n 1, 1) := by decide +kernel
theorem d_M_comeGroup_20 : decode b_M_comeGroup 20 = .ok (.invokevirtual 90, 3) := by decide +kernel
theorem d_M_comeGroup_23 : decode b_M_comeGroup 23 = .ok (.return_, 1) := by decide +kernel
theorem d_M_comeGroup_24 : decode b_M_comeGroup 24 = .ok (.aload_n 0, 1) := by decide +kernel
theorem d_M_comeGroup_25 : decode b_M_comeGroup 25 = .ok (.getfield 23, 3) := by decide +kernel
theorem d_M_comeGroup_28 : decode b_M_comeGroup 28 = .ok (.iconst 0, 1) := by decide +kernel
theorem d_M_comeGroup_29 : decode b_M_comeGroup 29 = .ok (.iaload, 1) := by decide +kernel
theorem d_M_comeGroup_30 : decode b_M_comeGroup 30 = .ok (.ifCond .le 16, 3) := by decide +kernel
theorem d_M_comeGroup_33 : decode b_M_comeGroup 33 = .ok (.aload_n 0, 1) := by decide +kernel
theorem d_M_comeGroup_34 : decode b_M_comeGroup 34 = .ok (.getfield 93, 3) := by decide +kernel
theorem d_M_comeGroup_37 : decode b_M_comeGroup 37 = .ok (.ifCond .ne 9, 3) := by decide +kernel
theorem d_M_comeGroup_40 : decode b_M_comeGroup 40 = .ok (.aload_n 0, 1) := by decide +kernel
theorem d_M_comeGroup_41 : decode b_M_comeGroup 41 = .ok (.iconst 0, 1) := by decide +kernel
theorem d_M_comeGroup_42 : decode b_M_comeGroup 42 = .ok (.iconst 0, 1) := by decide +kernel
theorem d_M_comeGroup_43 : decode b_M_comeGroup 43 = .ok (.invokevirtual 90, 3) := by decide +kernel
theorem d_M_comeGroup_46 : decode b_M_comeGroup 46 = .ok (.aload_n 0, 1) := by decide +kernel
theorem d_M_comeGroup_47 : decode b_M_comeGroup 47 = .ok (.iload_n 1, 1) := by decide +kernel
theorem d_M_comeGroup_48 : decode b_M_comeGroup 48 = .ok (.iconst 1, 1) := by decide +kernel
theorem d_M_comeGroup_49 : decode b_M_comeGroup 49 = .ok (.isub, 1) := by decide +kernel
theorem d_M_comeGroup_50 : decode b_M_comeGroup 50 = .ok (.putfield 87, 3) := by decide +kernel
theorem d_M_comeGroup_53 : decode b_M_comeGroup 53 = .ok (.aload_n 0, 1) := by decide +kernel
theorem d_M_comeGroup_54 : decode b_M_comeGroup 54 = .ok (.iload_n 1, 1) := by decide +kernel
theorem d_M_comeGroup_55 : decode b_M_comeGroup 55 = .ok (.sipush 255, 3) := by decide +kernel
theorem d_M_comeGroup_58 : decode b_M_comeGroup 58 = .ok (.if_icmp .ne 7, 3) := by decide +kernel
theorem d_M_comeGroup_61 : decode b_M_comeGroup 61 = .ok (.iconst 1, 1) := by decide +kernel
theorem d_M_comeGroup_62 : decode b_M_comeGroup 62 = .ok (.goto 4, 3) := by decide +kernel
theorem d_M_comeGroup_65 : decode b_M_comeGroup 65 = .ok (.iconst 0, 1) := by decide +kernel
theorem d_M_comeGroup_66 : decode b_M_comeGroup 66 = .ok (.putfield 93, 3) := by decide +kernel
theorem d_M_comeGroup_69 : decode b_M_comeGroup 69 = .ok (.return_, 1) := by decide +kernel
theorem d_M_isTurned_0 : decode b_M_isTurned 0 = .ok (.aload_n 0, 1) := by decide +kernel
theorem d_M_isTurned_1 : decode b_M_isTurned 1 = .ok (.getfield 36, 3) := by decide +kernel
theorem d_M_isTurned_4 : decode b_M_isTurned 4 = .ok (.iload_n 1, 1) := by decide +kernel
theorem d_M_isTurned_5 : decode b_M_isTurned 5 = .ok (.baload, 1) := by decide +kernel
theorem d_M_isTurned_6 : decode b_M_isTurned 6 = .ok (.istore_n 3, 1) := by decide +kernel
theorem d_M_isTurned_7 : decode b_M_isTurned 7 = .ok (.iload_n 1, 1) := by decide +kernel
theorem d_M_isTurned_8 : decode b_M_isTurned 8 = .ok (.iconst 1, 1) := by decide +kernel
theorem d_M_isTurned_9 : decode b_M_isTurned 9 = .ok (.if_icmp .ne 9, 3) := by decide +kernel
theorem d_M_isTurned_12 : decode b_M_isTurned 12 = .ok (.sipush 219, 3) := by decide +kernel
theorem d_M_isTurned_15 : decode b_M_isTurned 15 = .ok (.goto 5, 3) := by decide +kernel
theorem d_M_isTurned_18 : decode b_M_isTurned 18 = .ok (.bipush 125, 2) := by decide +kernel
theorem d_M_isTurned_20 : decode b_M_isTurned 20 = .ok (.istore 4, 2) := by decide +kernel
theorem d_M_isTurned_22 : decode b_M_isTurned 22 = .ok (.aload_n 0, 1) := by decide +kernel
theorem d_M_isTurned_23 : decode b_M_isTurned 23 = .ok (.getfield 36, 3) := by decide +kernel
theorem d_M_isTurned_26 : decode b_M_isTurned 26 = .ok (.iload_n 1, 1) := by decide +kernel
theorem d_M_isTurned_27 : decode b_M_isTurned 27 = .ok (.iload_n 3, 1) := by decide +kernel
theorem d_M_isTurned_28 : decode b_M_isTurned 28 = .ok (.ifCond .ne 13, 3) := by decide +kernel
theorem d_M_isTurned_31 : decode b_M_isTurned 31 = .ok (.iload_n 2, 1) := by decide +kernel
theorem d_M_isTurned_32 : decode b_M_isTurned 32 = .ok (.iload 4, 2) := by decide +kernel
theorem d_M_isTurned_34 : decode b_M_isTurned 34 = .ok (.if_icmp .ne 7, 3) := by decide +kernel
theorem d_M_isTurned_37 : decode b_M_isTurned 37 = .ok (.iconst 1, 1) := by decide +kernel
theorem d_M_isTurned_38 : decode b_M_isTurned 38 = .ok (.goto 4, 3) := by decide +kernel
theorem d_M_isTurned_41 : decode b_M_isTurned 41 = .ok (.iconst 0, 1) := by decide +kernel
theorem d_M_isTurned_42 : decode b_M_isTurned 42 = .ok (.bastore, 1) := by decide +kernel
theorem d_M_isTurned_43 : decode b_M_isTurned 43 = .ok (.iload_n 3, 1) := by decide +kernel
theorem d_M_isTurned_44 : decode b_M_isTurned 44 = .ok (.ifCond .eq 51, 3) := by decide +kernel
theorem d_M_isTurned_47 : decode b_M_isTurned 47 = .ok (.aload_n 0, 1) := by decide +kernel
theorem d_M_isTurned_48 : decode b_M_isTurned 48 = .ok (.getfield 32, 3) := by decide +kernel
theorem d_M_isTurned_51 : decode b_M_isTurned 51 = .ok (.iload_n 1, 1) := by decide +kernel
theorem d_M_isTurned_52 : decode b_M_isTurned 52 = .ok (.aload_n 0, 1) := by decide +kernel
theorem d_M_isTurned_53 : decode b_M_isTurned 53 = .ok (.getfield 32, 3) := by decide +kernel
theorem d_M_isTurned_56 : decode b_M_isTurned 56 = .ok (.iload_n 1, 1) := by decide +kernel
theorem d_M_isTurned_57 : decode b_M_isTurned 57 = .ok (.baload, 1) := by decide +kernel
theorem d_M_isTurned_58 : decode b_M_isTurned 58 = .ok (.ifCond .ne 31, 3) := by decide +kernel
theorem d_M_isTurned_61 : decode b_M_isTurned 61 = .ok (.iload_n 1, 1) := by decide +kernel
theorem d_M_isTurned_62 : decode b_M_isTurned 62 = .ok (.iconst 1, 1) := by decide +kernel
theorem d_M_isTurned_63 : decode b_M_isTurned 63 = .ok (.if_icmp .ne 20, 3) := by decide +kernel
theorem d_M_isTurned_66 : decode b_M_isTurned 66 = .ok (.iload_n 2, 1) := by decide +kernel
theorem d_M_isTurned_67 : decode b_M_isTurned 67 = .ok (.sipush 220, 3) := by decide +kernel
theorem d_M_isTurned_70 : decode b_M_isTurned 70 = .ok (.if_icmp .eq 23, 3) := by decide +kernel
theorem d_M_isTurned_73 : decode b_M_isTurned 73 = .ok (.iload_n 2, 1) := by decide +kernel
theorem d_M_isTurned_74 : decode b_M_isTurned 74 = .ok (.sipush 221, 3) := by decide +kernel
theorem d_M_isTurned_77 : decode b_M_isTurned 77 = .ok (.if_icmp .eq 16, 3) := by decide +kernel
theorem d_M_isTurned_80 : decode b_M_isTurned 80 = .ok (.goto 9, 3) := by decide +kernel
theorem d_M_isTurned_83 : decode b_M_isTurned 83 = .ok (.iload_n 2, 1) := by decide +kernel
theorem d_M_isTurned_84 : decode b_M_isTurned 84 = .ok (.bipush 125, 2) := by decide +kernel
theorem d_M_isTurned_86 : decode b_M_isTurned 86 = .ok (.if_icmp .ne 7, 3) := by decide +kernel
theorem d_M_isTurned_89 : decode b_M_isTurned 89 = .ok (.iconst 1, 1) := by decide +kernel
theorem d_M_isTurned_90 : decode b_M_isTurned 90 = .ok (.goto 4, 3) := by decide +kernel
theorem d_M_isTurned_93 : decode b_M_isTurned 93 = .ok (.iconst 0, 1) := by decide +kernel
theorem d_M_isTurned_94 : decode b_M_isTurned 94 = .ok (.bastore, 1) := by decide +kernel
theorem d_M_isTurned_95 : decode b_M_isTurned 95 = .ok (.iload_n 3, 1) := by decide +kernel
theorem d_M_isTurned_96 : decode b_M_isTurned 96 = .ok (.ireturn, 1) := by decide +kernel
theorem d_M_comeTurned_0 : decode b_M_comeTurned 0 = .ok (.aload_n 0, 1) := by decide +kernel
theorem d_M_comeTurned_1 : decode b_M_comeTurned 1 = .ok (.iload_n 1, 1) := by decide +kernel
theorem d_M_comeTurned_2 : decode b_M_comeTurned 2 = .ok (.iload_n 2, 1) := by decide +kernel
theorem d_M_comeTurned_3 : decode b_M_comeTurned 3 = .ok (.invokevirtual 97, 3) := by decide +kernel
theorem d_M_comeTurned_6 : decode b_M_comeTurned 6 = .ok (.istore_n 3, 1) := by decide +kernel
theorem d_M_comeTurned_7 : decode b_M_comeTurned 7 = .ok (.aload_n 0, 1) := by decide +kernel
theorem d_M_comeTurned_8 : decode b_M_comeTurned 8 = .ok (.getfield 36, 3) := by decide +kernel
theorem d_M_comeTurned_11 : decode b_M_comeTurned 11 = .ok (.iload_n 1, 1) := by decide +kernel
theorem d_M_comeTurned_12 : decode b_M_comeTurned 12 = .ok (.baload, 1) := by decide +kernel
theorem d_M_comeTurned_13 : decode b_M_comeTurned 13 = .ok (.ifCond .eq 4, 3) := by decide +kernel
theorem d_M_comeTurned_16 : decode b_M_comeTurned 16 = .ok (.return_, 1) := by decide +kernel
theorem d_M_comeTurned_17 : decode b_M_comeTurned 17 = .ok (.iload_n 3, 1) := by decide +kernel
theorem d_M_comeTurned_18 : decode b_M_comeTurned 18 = .ok (.ifCond .ne 7, 3) := by decide +kernel
theorem d_M_comeTurned_21 : decode b_M_comeTurned 21 = .ok (.iload_n 2, 1) := by decide +kernel
theorem d_M_comeTurned_22 : decode b_M_comeTurned 22 = .ok (.goto 31, 3) := by decide +kernel
theorem d_M_comeTurned_25 : decode b_M_comeTurned 25 = .ok (.iload_n 1, 1) := by decide +kernel
theorem d_M_comeTurned_26 : decode b_M_comeTurned 26 = .ok (.iconst 1, 1) := by decide +kernel
theorem d_M_comeTurned_27 : decode b_M_comeTurned 27 = .ok (.if_icmp .ne 22, 3) := by decide +kernel
theorem d_M_comeTurned_30 : decode b_M_comeTurned 30 = .ok (.iload_n 2, 1) := by decide +kernel
theorem d_M_comeTurned_31 : decode b_M_comeTurned 31 = .ok (.sipush 220, 3) := by decide +kernel
theorem d_M_comeTurned_34 : decode b_M_comeTurned 34 = .ok (.if_icmp .ne 9, 3) := by decide +kernel
theorem d_M_comeTurned_37 : decode b_M_comeTurned 37 = .ok (.sipush 192, 3) := by decide +kernel
theorem d_M_comeTurned_40 : decode b_M_comeTurned 40 = .ok (.goto 13, 3) := by decide +kernel
theorem d_M_comeTurned_43 : decode b_M_comeTurned 43 = .ok (.sipush 219, 3) := by decide +kernel
theorem d_M_comeTurned_46 : decode b_M_comeTurned 46 = .ok (.goto 7, 3) := by decide +kernel
theorem d_M_comeTurned_49 : decode b_M_comeTurned 49 = .ok (.iload_n 2, 1) := by decide +kernel
theorem d_M_comeTurned_50 : decode b_M_comeTurned 50 = .ok (.bipush 32, 2) := by decide +kernel
theorem d_M_comeTurned_52 : decode b_M_comeTurned 52 = .ok (.ixor, 1) := by decide +kernel
theorem d_M_comeTurned_53 : decode b_M_comeTurned 53 = .ok (.istore 4, 2) := by decide +kernel
theorem d_M_comeTurned_55 : decode b_M_comeTurned 55 = .ok (.iload_n 1, 1) := by decide +kernel
theorem d_M_comeTurned_56 : decode b_M_comeTurned 56 = .ok (.iconst 1, 1) := by decide +kernel
theorem d_M_comeTurned_57 : decode b_M_comeTurned 57 = .ok (.if_icmp .ne 11, 3) := by decide +kernel
theorem d_M_comeTurned_60 : decode b_M_comeTurned 60 = .ok (.aload_n 0, 1) := by decide +kernel
theorem d_M_comeTurned_61 : decode b_M_comeTurned 61 = .ok (.iconst 1, 1) := by decide +kernel
theorem d_M_comeTurned_62 : decode b_M_comeTurned 62 = .ok (.iload 4, 2) := by decide +kernel
theorem d_M_comeTurned_64 : decode b_M_comeTurned 64 = .ok (.invokevirtual 90, 3) := by decide +kernel
theorem d_M_comeTurned_67 : decode b_M_comeTurned 67 = .ok (.return_, 1) := by decide +kernel
theorem d_M_comeTurned_68 : decode b_M_comeTurned 68 = .ok (.aload_n 0, 1) := by decide +kernel
theorem d_M_comeTurned_69 : decode b_M_comeTurned 69 = .ok (.getfield 26, 3) := by decide +kernel
theorem d_M_comeTurned_72 : decode b_M_comeTurned 72 = .ok (.iconst 2, 1) := by decide +kernel
theorem d_M_comeTurned_73 : decode b_M_comeTurned 73 = .ok (.iaload, 1) := by decide +kernel
theorem d_M_comeTurned_74 : decode b_M_comeTurned 74 = .ok (.iconst 2, 1) := by decide +kernel
theorem d_M_comeTurned_75 : decode b_M_comeTurned 75 = .ok (.if_icmp .lt 53, 3) := by decide +kernel
theorem d_M_comeTurned_78 : decode b_M_comeTurned 78 = .ok (.aload_n 0, 1) := by decide +kernel
theorem d_M_comeTurned_79 : decode b_M_comeTurned 79 = .ok (.aload_n 0, 1) := by decide +kernel
theorem d_M_comeTurned_80 : decode b_M_comeTurned 80 = .ok (.getfield 101, 3) := by decide +kernel
theorem d_M_comeTurned_83 : decode b_M_comeTurned 83 = .ok (.aload_n 0, 1) := by decide +kernel
theorem d_M_comeTurned_84 : decode b_M_comeTurned 84 = .ok (.getfield 104, 3) := by decide +kernel
theorem d_M_comeTurned_87 : decode b_M_comeTurned 87 = .ok (.invokestatic 81, 3) := by decide +kernel
theorem d_M_comeTurned_90 : decode b_M_comeTurned 90 = .ok (.putfield 101, 3) := by decide +kernel
theorem d_M_comeTurned_93 : decode b_M_comeTurned 93 = .ok (.aload_n 0, 1) := by decide +kernel
theorem d_M_comeTurned_94 : decode b_M_comeTurned 94 = .ok (.getfield 26, 3) := by decide +kernel
theorem d_M_comeTurned_97 : decode b_M_comeTurned 97 = .ok (.iconst 2, 1) := by decide +kernel
theorem d_M_comeTurned_98 : decode b_M_comeTurned 98 = .ok (.iaload, 1) := by decide +kernel
theorem d_M_comeTurned_99 : decode b_M_comeTurned 99 = .ok (.iconst 2, 1) := by decide +kernel
theorem d_M_comeTurned_100 : decode b_M_comeTurned 100 = .ok (.isub, 1) := by decide +kernel
theorem d_M_comeTurned_101 : decode b_M_comeTurned 101 = .ok (.sipush 400, 3) := by decide +kernel
theorem d_M_comeTurned_104 : decode b_M_comeTurned 104 = .ok (.if_icmp .ge 24, 3) := by decide +kernel
theorem d_M_comeTurned_107 : decode b_M_comeTurned 107 = .ok (.aload_n 0, 1) := by decide +kernel
theorem d_M_comeTurned_108 : decode b_M_comeTurned 108 = .ok (.getfield 29, 3) := by decide +kernel
theorem d_M_comeTurned_111 : decode b_M_comeTurned 111 = .ok (.sipush 800, 3) := by decide +kernel
theorem d_M_comeTurned_114 : decode b_M_comeTurned 114 = .ok (.aload_n 0, 1) := by decide +kernel
theorem d_M_comeTurned_115 : decode b_M_comeTurned 115 = .ok (.getfield 26, 3) := by decide +kernel
theorem d_M_comeTurned_118 : decode b_M_comeTurned 118 = .ok (.iconst 2, 1) := by decide +kernel
theorem d_M_comeTurned_119 : decode b_M_comeTurned 119 = .ok (.iaload, 1) := by decide +kernel
theorem d_M_comeTurned_120 : decode b_M_comeTurned 120 = .ok (.iadd, 1) := by decide +kernel
theorem d_M_comeTurned_121 : decode b_M_comeTurned 121 = .ok (.iconst 2, 1) := by decide +kernel
theorem d_M_comeTurned_122 : decode b_M_comeTurned 122 = .ok (.isub, 1) := by decide +kernel
theorem d_M_comeTurned_123 : decode b_M_comeTurned 123 = .ok (.aload_n 0, 1) := by decide +kernel
theorem d_M_comeTurned_124 : decode b_M_comeTurned 124 = .ok (.getfield 104, 3) := by decide +kernel
theorem d_M_comeTurned_127 : decode b_M_comeTurned 127 = .ok (.iastore, 1) := by decide +kernel
theorem d_M_comeTurned_128 : decode b_M_comeTurned 128 = .ok (.aload_n 0, 1) := by decide +kernel
theorem d_M_comeTurned_129 : decode b_M_comeTurned 129 = .ok (.aload_n 0, 1) := by decide +kernel
theorem d_M_comeTurned_130 : decode b_M_comeTurned 130 = .ok (.getfield 107, 3) := by decide +kernel
theorem d_M_comeTurned_133 : decode b_M_comeTurned 133 = .ok (.putfield 104, 3) := by decide +kernel
theorem d_M_comeTurned_136 : decode b_M_comeTurned 136 = .ok (.aload_n 0, 1) := by decide +kernel
theorem d_M_comeTurned_137 : decode b_M_comeTurned 137 = .ok (.iload 4, 2) := by decide +kernel
theorem d_M_comeTurned_139 : decode b_M_comeTurned 139 = .ok (.putfield 107, 3) := by decide +kernel
theorem d_M_comeTurned_142 : decode b_M_comeTurned 142 = .ok (.aload_n 0, 1) := by decide +kernel
theorem d_M_comeTurned_143 : decode b_M_comeTurned 143 = .ok (.getfield 26, 3) := by decide +kernel
theorem d_M_comeTurned_146 : decode b_M_comeTurned 146 = .ok (.iconst 2, 1) := by decide +kernel
theorem d_M_comeTurned_147 : decode b_M_comeTurned 147 = .ok (.dup2, 1) := by decide +kernel
theorem d_M_comeTurned_148 : decode b_M_comeTurned 148 = .ok (.iaload, 1) := by decide +kernel
theorem d_M_comeTurned_149 : decode b_M_comeTurned 149 = .ok (.iconst 1, 1) := by decide +kernel
theorem d_M_comeTurned_150 : decode b_M_comeTurned 150 = .ok (.iadd, 1) := by decide +kernel
theorem d_M_comeTurned_151 : decode b_M_comeTurned 151 = .ok (.iastore, 1) := by decide +kernel
theorem d_M_comeTurned_152 : decode b_M_comeTurned 152 = .ok (.return_, 1) := by decide +kernel
theorem d_M_isSo_0 : decode b_M_isSo 0 = .ok (.iload_n 1, 1) := by decide +kernel
theorem d_M_isSo_1 : decode b_M_isSo 1 = .ok (.ifCond .ne 25, 3) := by decide +kernel
theorem d_M_isSo_4 : decode b_M_isSo 4 = .ok (.aload_n 0, 1) := by decide +kernel
theorem d_M_isSo_5 : decode b_M_isSo 5 = .ok (.getfield 23, 3) := by decide +kernel
theorem d_M_isSo_8 : decode b_M_isSo 8 = .ok (.iconst 0, 1) := by decide +kernel
theorem d_M_isSo_9 : decode b_M_isSo 9 = .ok (.iaload, 1) := by decide +kernel
theorem d_M_isSo_10 : decode b_M_isSo 10 = .ok (.ifCond .le 14, 3) := by decide +kernel
theorem d_M_isSo_13 : decode b_M_isSo 13 = .ok (.aload_n 0, 1) := by decide +kernel
theorem d_M_isSo_14 : decode b_M_isSo 14 = .ok (.getfield 87, 3) := by decide +kernel
theorem d_M_isSo_17 : decode b_M_isSo 17 = .ok (.ifCond .ne 7, 3) := by decide +kernel
theorem d_M_isSo_20 : decode b_M_isSo 20 = .ok (.iconst 1, 1) := by decide +kernel
theorem d_M_isSo_21 : decode b_M_isSo 21 = .ok (.goto 4, 3) := by decide +kernel
theorem d_M_isSo_24 : decode b_M_isSo 24 = .ok (.iconst 0, 1) := by decide +kernel
theorem d_M_isSo_25 : decode b_M_isSo 25 = .ok (.ireturn, 1) := by decide +kernel
theorem d_M_isSo_26 : decode b_M_isSo 26 = .ok (.aload_n 0, 1) := by decide +kernel
theorem d_M_isSo_27 : decode b_M_isSo 27 = .ok (.getfield 32, 3) := by decide +kernel
theorem d_M_isSo_30 : decode b_M_isSo 30 = .ok (.iload_n 1, 1) := by decide +kernel
theorem d_M_isSo_31 : decode b_M_isSo 31 = .ok (.baload, 1) := by decide +kernel
theorem d_M_isSo_32 : decode b_M_isSo 32 = .ok (.ifCond .ne 12, 3) := by decide +kernel
theorem d_M_isSo_35 : decode b_M_isSo 35 = .ok (.aload_n 0, 1) := by decide +kernel
theorem d_M_isSo_36 : decode b_M_isSo 36 = .ok (.getfield 36, 3) := by decide +kernel
theorem d_M_isSo_39 : decode b_M_isSo 39 = .ok (.iload_n 1, 1) := by decide +kernel
theorem d_M_isSo_40 : decode b_M_isSo 40 = .ok (.baload, 1) := by decide +kernel
theorem d_M_isSo_41 : decode b_M_isSo 41 = .ok (.ifCond .eq 5, 3) := by decide +kernel
theorem d_M_isSo_44 : decode b_M_isSo 44 = .ok (.iconst 0, 1) := by decide +kernel
theorem d_M_isSo_45 : decode b_M_isSo 45 = .ok (.ireturn, 1) := by decide +kernel
theorem d_M_isSo_46 : decode b_M_isSo 46 = .ok (.iload_n 1, 1) := by decide +kernel
theorem d_M_isSo_47 : decode b_M_isSo 47 = .ok (.iconst 1, 1) := by decide +kernel
theorem d_M_isSo_48 : decode b_M_isSo 48 = .ok (.if_icmp .eq 37, 3) := by decide +kernel
theorem d_M_isSo_51 : decode b_M_isSo 51 = .ok (.aload_n 0, 1) := by decide +kernel
theorem d_M_isSo_52 : decode b_M_isSo 52 = .ok (.getfield 26, 3) := by decide +kernel
theorem d_M_isSo_55 : decode b_M_isSo 55 = .ok (.iconst 2, 1) := by decide +kernel
theorem d_M_isSo_56 : decode b_M_isSo 56 = .ok (.iaload, 1) := by decide +kernel
theorem d_M_isSo_57 : decode b_M_isSo 57 = .ok (.iconst 2, 1) := by decide +kernel
theorem d_M_isSo_58 : decode b_M_isSo 58 = .ok (.if_icmp .le 31, 3) := by decide +kernel
theorem d_M_isSo_61 : decode b_M_isSo 61 = .ok (.aload_n 0, 1) := by decide +kernel
theorem d_M_isSo_62 : decode b_M_isSo 62 = .ok (.getfield 101, 3) := by decide +kernel
theorem d_M_isSo_65 : decode b_M_isSo 65 = .ok (.iconst (-1), 1) := by decide +kernel
theorem d_M_isSo_66 : decode b_M_isSo 66 = .ok (.ixor, 1) := by decide +kernel
theorem d_M_isSo_67 : decode b_M_isSo 67 = .ok (.ldc 76, 2) := by decide +kernel
theorem d_M_isSo_69 : decode b_M_isSo 69 = .ok (.iand, 1) := by decide +kernel
theorem d_M_isSo_70 : decode b_M_isSo 70 = .ok (.aload_n 0, 1) := by decide +kernel
theorem d_M_isSo_71 : decode b_M_isSo 71 = .ok (.getfield 104, 3) := by decide +kernel
theorem d_M_isSo_74 : decode b_M_isSo 74 = .ok (.aload_n 0, 1) := by decide +kernel
theorem d_M_isSo_75 : decode b_M_isSo 75 = .ok (.getfield 107, 3) := by decide +kernel
theorem d_M_isSo_78 : decode b_M_isSo 78 = .ok (.bipush 8, 2) := by decide +kernel
theorem d_M_isSo_80 : decode b_M_isSo 80 = .ok (.ishl, 1) := by decide +kernel
theorem d_M_isSo_81 : decode b_M_isSo 81 = .ok (.ior, 1) := by decide +kernel
theorem d_M_isSo_82 : decode b_M_isSo 82 = .ok (.if_icmp .ne 7, 3) := by decide +kernel
theorem d_M_isSo_85 : decode b_M_isSo 85 = .ok (.iconst 1, 1) := by decide +kernel
theorem d_M_isSo_86 : decode b_M_isSo 86 = .ok (.goto 4, 3) := by decide +kernel
theorem d_M_isSo_89 : decode b_M_isSo 89 = .ok (.iconst 0, 1) := by decide +kernel
theorem d_M_isSo_90 : decode b_M_isSo 90 = .ok (.ireturn, 1) := by decide +kernel
theorem d_M_begin_0 : decode b_M_begin 0 = .ok (.aload_n 0, 1) := by decide +kernel
theorem d_M_begin_1 : decode b_M_begin 1 = .ok (.getfield 23, 3) := by decide +kernel
theorem d_M_begin_4 : decode b_M_begin 4 = .ok (.iload_n 1, 1) := by decide +kernel
theorem d_M_begin_5 : decode b_M_begin 5 = .ok (.iconst 0, 1) := by decide +kernel
theorem d_M_begin_6 : decode b_M_begin 6 = .ok (.iastore, 1) := by decide +kernel
theorem d_M_begin_7 : decode b_M_begin 7 = .ok (.aload_n 0, 1) := by decide +kernel
theorem d_M_begin_8 : decode b_M_begin 8 = .ok (.getfield 26, 3) := by decide +kernel
theorem d_M_begin_11 : decode b_M_begin 11 = .ok (.iload_n 1, 1) := by decide +kernel
theorem d_M_begin_12 : decode b_M_begin 12 = .ok (.iconst 0, 1) := by decide +kernel
theorem d_M_begin_13 : decode b_M_begin 13 = .ok (.iastore, 1) := by decide +kernel
theorem d_M_begin_14 : decode b_M_begin 14 = .ok (.aload_n 0, 1) := by decide +kernel
theorem d_M_begin_15 : decode b_M_begin 15 = .ok (.getfield 32, 3) := by decide +kernel
theorem d_M_begin_18 : decode b_M_begin 18 = .ok (.iload_n 1, 1) := by decide +kernel
theorem d_M_begin_19 : decode b_M_begin 19 = .ok (.iconst 0, 1) := by decide +kernel
theorem d_M_begin_20 : decode b_M_begin 20 = .ok (.bastore, 1) := by decide +kernel
theorem d_M_begin_21 : decode b_M_begin 21 = .ok (.aload_n 0, 1) := by decide +kernel
theorem d_M_begin_22 : decode b_M_begin 22 = .ok (.getfield 36, 3) := by decide +kernel
theorem d_M_begin_25 : decode b_M_begin 25 = .ok (.iload_n 1, 1) := by decide +kernel
theorem d_M_begin_26 : decode b_M_begin 26 = .ok (.iconst 0, 1) := by decide +kernel
theorem d_M_begin_27 : decode b_M_begin 27 = .ok (.bastore, 1) := by decide +kernel
theorem d_M_begin_28 : decode b_M_begin 28 = .ok (.iload_n 1, 1) := by decide +kernel
theorem d_M_begin_29 : decode b_M_begin 29 = .ok (.ifCond .ne 13, 3) := by decide +kernel
theorem d_M_begin_32 : decode b_M_begin 32 = .ok (.aload_n 0, 1) := by decide +kernel
theorem d_M_begin_33 : decode b_M_begin 33 = .ok (.iconst 0, 1) := by decide +kernel
theorem d_M_begin_34 : decode b_M_begin 34 = .ok (.putfield 87, 3) := by decide +kernel
theorem d_M_begin_37 : decode b_M_begin 37 = .ok (.aload_n 0, 1) := by decide +kernel
theorem d_M_begin_38 : decode b_M_begin 38 = .ok (.iconst 0, 1) := by decide +kernel
theorem d_M_begin_39 : decode b_M_begin 39 = .ok (.putfield 93, 3) := by decide +kernel
theorem d_M_begin_42 : decode b_M_begin 42 = .ok (.iload_n 1, 1) := by decide +kernel
theorem d_M_begin_43 : decode b_M_begin 43 = .ok (.iconst 2, 1) := by decide +kernel
theorem d_M_begin_44 : decode b_M_begin 44 = .ok (.if_icmp .ne 9, 3) := by decide +kernel
theorem d_M_begin_47 : decode b_M_begin 47 = .ok (.aload_n 0, 1) := by decide +kernel
theorem d_M_begin_48 : decode b_M_begin 48 = .ok (.ldc 76, 2) := by decide +kernel
theorem d_M_begin_50 : decode b_M_begin 50 = .ok (.putfield 101, 3) := by decide +kernel
theorem d_M_begin_53 : decode b_M_begin 53 = .ok (.return_, 1) := by decide +kernel
theorem d_M_ends_0 : decode b_M_ends 0 = .ok (.iload_n 1, 1) := by decide +kernel
theorem d_M_ends_1 : decode b_M_ends 1 = .ok (.iconst 2, 1) := by decide +kernel
theorem d_M_ends_2 : decode b_M_ends 2 = .ok (.if_icmp .ne 14, 3) := by decide +kernel
theorem d_M_ends_5 : decode b_M_ends 5 = .ok (.aload_n 0, 1) := by decide +kernel
theorem d_M_ends_6 : decode b_M_ends 6 = .ok (.getfield 26, 3) := by decide +kernel
theorem d_M_ends_9 : decode b_M_ends 9 = .ok (.iconst 2, 1) := by decide +kernel
theorem d_M_ends_10 : decode b_M_ends 10 = .ok (.iaload, 1) := by decide +kernel
theorem d_M_ends_11 : decode b_M_ends 11 = .ok (.iconst 2, 1) := by decide +kernel
theorem d_M_ends_12 : decode b_M_ends 12 = .ok (.isub, 1) := by decide +kernel
theorem d_M_ends_13 : decode b_M_ends 13 = .ok (.goto 9, 3) := by decide +kernel
theorem d_M_ends_16 : decode b_M_ends 16 = .ok (.aload_n 0, 1) := by decide +kernel
theorem d_M_ends_17 : decode b_M_ends 17 = .ok (.getfield 26, 3) := by decide +kernel
theorem d_M_ends_20 : decode b_M_ends 20 = .ok (.iload_n 1, 1) := by decide +kernel
theorem d_M_ends_21 : decode b_M_ends 21 = .ok (.iaload, 1) := by decide +kernel
theorem d_M_ends_22 : decode b_M_ends 22 = .ok (.istore_n 2, 1) := by decide +kernel
theorem d_M_ends_23 : decode b_M_ends 23 = .ok (.aload_n 0, 1) := by decide +kernel
theorem d_M_ends_24 : decode b_M_ends 24 = .ok (.iload_n 1, 1) := by decide +kernel
theorem d_M_ends_25 : decode b_M_ends 25 = .ok (.invokevirtual 110, 3) := by decide +kernel
theorem d_M_ends_28 : decode b_M_ends 28 = .ok (.ifCond .ne 7, 3) := by decide +kernel
theorem d_M_ends_31 : decode b_M_ends 31 = .ok (.iconst 2, 1) := by decide +kernel
theorem d_M_ends_32 : decode b_M_ends 32 = .ok (.goto 16, 3) := by decide +kernel
theorem d_M_ends_35 : decode b_M_ends 35 = .ok (.iload_n 2, 1) := by decide +kernel
theorem d_M_ends_36 : decode b_M_ends 36 = .ok (.aload_n 0, 1) := by decide +kernel
theorem d_M_ends_37 : decode b_M_ends 37 = .ok (.getfield 13, 3) := by decide +kernel
theorem d_M_ends_40 : decode b_M_ends 40 = .ok (.if_icmp .le 7, 3) := by decide +kernel
theorem d_M_ends_43 : decode b_M_ends 43 = .ok (.iconst 3, 1) := by decide +kernel
theorem d_M_ends_44 : decode b_M_ends 44 = .ok (.goto 4, 3) := by decide +kernel
theorem d_M_ends_47 : decode b_M_ends 47 = .ok (.iconst 1, 1) := by decide +kernel
theorem d_M_ends_48 : decode b_M_ends 48 = .ok (.istore_n 3, 1) := by decide +kernel
theorem d_M_ends_49 : decode b_M_ends 49 = .ok (.aload_n 0, 1) := by decide +kernel
theorem d_M_ends_50 : decode b_M_ends 50 = .ok (.getfield 45, 3) := by decide +kernel
theorem d_M_ends_53 : decode b_M_ends 53 = .ok (.iconst 4, 1) := by decide +kernel
theorem d_M_ends_54 : decode b_M_ends 54 = .ok (.iload_n 1, 1) := by decide +kernel
theorem d_M_ends_55 : decode b_M_ends 55 = .ok (.imul, 1) := by decide +kernel
theorem d_M_ends_56 : decode b_M_ends 56 = .ok (.iload_n 3, 1) := by decide +kernel
theorem d_M_ends_57 : decode b_M_ends 57 = .ok (.iadd, 1) := by decide +kernel
theorem d_M_ends_58 : decode b_M_ends 58 = .ok (.dup2, 1) := by decide +kernel
theorem d_M_ends_59 : decode b_M_ends 59 = .ok (.iaload, 1) := by decide +kernel
theorem d_M_ends_60 : decode b_M_ends 60 = .ok (.iconst 1, 1) := by decide +kernel
theorem d_M_ends_61 : decode b_M_ends 61 = .ok (.iadd, 1) := by decide +kernel
theorem d_M_ends_62 : decode b_M_ends 62 = .ok (.iastore, 1) := by decide +kernel
theorem d_M_ends_63 : decode b_M_ends 63 = .ok (.iload_n 3, 1) := by decide +kernel
theorem d_M_ends_64 : decode b_M_ends 64 = .ok (.iconst 1, 1) := by decide +kernel
theorem d_M_ends_65 : decode b_M_ends 65 = .ok (.if_icmp .ne 51, 3) := by decide +kernel
theorem d_M_ends_68 : decode b_M_ends 68 = .ok (.aload_n 0, 1) := by decide +kernel
theorem d_M_ends_69 : decode b_M_ends 69 = .ok (.getfield 39, 3) := by decide +kernel
theorem d_M_ends_72 : decode b_M_ends 72 = .ok (.iload_n 1, 1) := by decide +kernel
theorem d_M_ends_73 : decode b_M_ends 73 = .ok (.iload_n 2, 1) := by decide +kernel
theorem d_M_ends_74 : decode b_M_ends 74 = .ok (.iastore, 1) := by decide +kernel
theorem d_M_ends_75 : decode b_M_ends 75 = .ok (.iconst 0, 1) := by decide +kernel
theorem d_M_ends_76 : decode b_M_ends 76 = .ok (.istore 4, 2) := by decide +kernel
theorem d_M_ends_78 : decode b_M_ends 78 = .ok (.iload 4, 2) := by decide +kernel
theorem d_M_ends_80 : decode b_M_ends 80 = .ok (.iload_n 2, 1) := by decide +kernel
theorem d_M_ends_81 : decode b_M_ends 81 = .ok (.if_icmp .ge 35, 3) := by decide +kernel
theorem d_M_ends_84 : decode b_M_ends 84 = .ok (.aload_n 0, 1) := by decide +kernel
theorem d_M_ends_85 : decode b_M_ends 85 = .ok (.getfield 42, 3) := by decide +kernel
theorem d_M_ends_88 : decode b_M_ends 88 = .ok (.sipush 400, 3) := by decide +kernel
theorem d_M_ends_91 : decode b_M_ends 91 = .ok (.iload_n 1, 1) := by decide +kernel
theorem d_M_ends_92 : decode b_M_ends 92 = .ok (.imul, 1) := by decide +kernel
theorem d_M_ends_93 : decode b_M_ends 93 = .ok (.iload 4, 2) := by decide +kernel
theorem d_M_ends_95 : decode b_M_ends 95 = .ok (.iadd, 1) := by decide +kernel
theorem d_M_ends_96 : decode b_M_ends 96 = .ok (.aload_n 0, 1) := by decide +kernel
theorem d_M_ends_97 : decode b_M_ends 97 = .ok (.getfield 29, 3) := by decide +kernel
theorem d_M_ends_100 : decode b_M_ends 100 = .ok (.sipush 400, 3) := by decide +kernel
theorem d_M_ends_103 : decode b_M_ends 103 = .ok (.iload_n 1, 1) := by decide +kernel
theorem d_M_ends_104 : decode b_M_ends 104 = .ok (.imul, 1) := by decide +kernel
theorem d_M_ends_105 : decode b_M_ends 105 = .ok (.iload 4, 2) := by decide +kernel
theorem d_M_ends_107 : decode b_M_ends 107 = .ok (.iadd, 1) := by decide +kernel
theorem d_M_ends_108 : decode b_M_ends 108 = .ok (.iaload, 1) := by decide +kernel
theorem d_M_ends_109 : decode b_M_ends 109 = .ok (.iastore, 1) := by decide +kernel
theorem d_M_ends_110 : decode b_M_ends 110 = .ok (.iinc 4 1, 3) := by decide +kernel
theorem d_M_ends_113 : decode b_M_ends 113 = .ok (.goto (-35), 3) := by decide +kernel
theorem d_M_ends_116 : decode b_M_ends 116 = .ok (.aload_n 0, 1) := by decide +kernel
theorem d_M_ends_117 : decode b_M_ends 117 = .ok (.iload_n 1, 1) := by decide +kernel
theorem d_M_ends_118 : decode b_M_ends 118 = .ok (.invokevirtual 113, 3) := by decide +kernel
theorem d_M_ends_121 : decode b_M_ends 121 = .ok (.iload_n 3, 1) := by decide +kernel
theorem d_M_ends_122 : decode b_M_ends 122 = .ok (.ireturn, 1) := by decide +kernel
theorem d_M_take_0 : decode b_M_take 0 = .ok (.iload_n 2, 1) := by decide +kernel
theorem d_M_take_1 : decode b_M_take 1 = .ok (.iload_n 1, 1) := by decide +kernel
theorem d_M_take_2 : decode b_M_take 2 = .ok (.ifCond .ne 7, 3) := by decide +kernel
theorem d_M_take_5 : decode b_M_take 5 = .ok (.iconst 0, 1) := by decide +kernel
theorem d_M_take_6 : decode b_M_take 6 = .ok (.goto 16, 3) := by decide +kernel
theorem d_M_take_9 : decode b_M_take 9 = .ok (.iload_n 1, 1) := by decide +kernel
theorem d_M_take_10 : decode b_M_take 10 = .ok (.iconst 1, 1) := by decide +kernel
theorem d_M_take_11 : decode b_M_take 11 = .ok (.if_icmp .ne 9, 3) := by decide +kernel
theorem d_M_take_14 : decode b_M_take 14 = .ok (.sipush 192, 3) := by decide +kernel
theorem d_M_take_17 : decode b_M_take 17 = .ok (.goto 5, 3) := by decide +kernel
theorem d_M_take_20 : decode b_M_take 20 = .ok (.bipush 126, 2) := by decide +kernel
theorem d_M_take_22 : decode b_M_take 22 = .ok (.if_icmp .ne 26, 3) := by decide +kernel
theorem d_M_take_25 : decode b_M_take 25 = .ok (.iload_n 1, 1) := by decide +kernel
theorem d_M_take_26 : decode b_M_take 26 = .ok (.ifCond .le 16, 3) := by decide +kernel
theorem d_M_take_29 : decode b_M_take 29 = .ok (.aload_n 0, 1) := by decide +kernel
theorem d_M_take_30 : decode b_M_take 30 = .ok (.getfield 23, 3) := by decide +kernel
theorem d_M_take_33 : decode b_M_take 33 = .ok (.iload_n 1, 1) := by decide +kernel
theorem d_M_take_34 : decode b_M_take 34 = .ok (.iaload, 1) := by decide +kernel
theorem d_M_take_35 : decode b_M_take 35 = .ok (.ifCond .ne 7, 3) := by decide +kernel
theorem d_M_take_38 : decode b_M_take 38 = .ok (.iconst 0, 1) := by decide +kernel
theorem d_M_take_39 : decode b_M_take 39 = .ok (.goto 8, 3) := by decide +kernel
theorem d_M_take_42 : decode b_M_take 42 = .ok (.aload_n 0, 1) := by decide +kernel
theorem d_M_take_43 : decode b_M_take 43 = .ok (.iload_n 1, 1) := by decide +kernel
theorem d_M_take_44 : decode b_M_take 44 = .ok (.invokevirtual 116, 3) := by decide +kernel
theorem d_M_take_47 : decode b_M_take 47 = .ok (.ireturn, 1) := by decide +kernel
theorem d_M_take_48 : decode b_M_take 48 = .ok (.aload_n 0, 1) := by decide +kernel
theorem d_M_take_49 : decode b_M_take 49 = .ok (.getfield 23, 3) := by decide +kernel
theorem d_M_take_52 : decode b_M_take 52 = .ok (.iload_n 1, 1) := by decide +kernel
theorem d_M_take_53 : decode b_M_take 53 = .ok (.iaload, 1) := by decide +kernel
theorem d_M_take_54 : decode b_M_take 54 = .ok (.ifCond .ne 8, 3) := by decide +kernel
theorem d_M_take_57 : decode b_M_take 57 = .ok (.aload_n 0, 1) := by decide +kernel
theorem d_M_take_58 : decode b_M_take 58 = .ok (.iload_n 1, 1) := by decide +kernel
theorem d_M_take_59 : decode b_M_take 59 = .ok (.invokevirtual 113, 3) := by decide +kernel
theorem d_M_take_62 : decode b_M_take 62 = .ok (.iload_n 1, 1) := by decide +kernel
theorem d_M_take_63 : decode b_M_take 63 = .ok (.ifCond .ne 11, 3) := by decide +kernel
theorem d_M_take_66 : decode b_M_take 66 = .ok (.aload_n 0, 1) := by decide +kernel
theorem d_M_take_67 : decode b_M_take 67 = .ok (.iload_n 2, 1) := by decide +kernel
theorem d_M_take_68 : decode b_M_take 68 = .ok (.invokevirtual 120, 3) := by decide +kernel
theorem d_M_take_71 : decode b_M_take 71 = .ok (.goto 9, 3) := by decide +kernel
theorem d_M_take_74 : decode b_M_take 74 = .ok (.aload_n 0, 1) := by decide +kernel
theorem d_M_take_75 : decode b_M_take 75 = .ok (.iload_n 1, 1) := by decide +kernel
theorem d_M_take_76 : decode b_M_take 76 = .ok (.iload_n 2, 1) := by decide +kernel
theorem d_M_take_77 : decode b_M_take 77 = .ok (.invokevirtual 123, 3) := by decide +kernel
theorem d_M_take_80 : decode b_M_take 80 = .ok (.aload_n 0, 1) := by decide +kernel
theorem d_M_take_81 : decode b_M_take 81 = .ok (.getfield 23, 3) := by decide +kernel
theorem d_M_take_84 : decode b_M_take 84 = .ok (.iload_n 1, 1) := by decide +kernel
theorem d_M_take_85 : decode b_M_take 85 = .ok (.dup2, 1) := by decide +kernel
theorem d_M_take_86 : decode b_M_take 86 = .ok (.iaload, 1) := by decide +kernel
theorem d_M_take_87 : decode b_M_take 87 = .ok (.iconst 1, 1) := by decide +kernel
theorem d_M_take_88 : decode b_M_take 88 = .ok (.iadd, 1) := by decide +kernel
theorem d_M_take_89 : decode b_M_take 89 = .ok (.iastore, 1) := by decide +kernel
theorem d_M_take_90 : decode b_M_take 90 = .ok (.iconst 0, 1) := by decide +kernel
theorem d_M_take_91 : decode b_M_take 91 = .ok (.ireturn, 1) := by decide +kernel
theorem d_M_come_0 : decode b_M_come 0 = .ok (.aload_n 0, 1) := by decide +kernel
theorem d_M_come_1 : decode b_M_come 1 = .ok (.iconst 0, 1) := by decide +kernel
theorem d_M_come_2 : decode b_M_come 2 = .ok (.putfield 48, 3) := by decide +kernel
theorem d_M_come_5 : decode b_M_come 5 = .ok (.iload_n 1, 1) := by decide +kernel
theorem d_M_come_6 : decode b_M_come 6 = .ok (.invokestatic 69, 3) := by decide +kernel
theorem d_M_come_9 : decode b_M_come 9 = .ok (.ifCond .eq 16, 3) := by decide +kernel
theorem d_M_come_12 : decode b_M_come 12 = .ok (.aload_n 0, 1) := by decide +kernel
theorem d_M_come_13 : decode b_M_come 13 = .ok (.iload_n 1, 1) := by decide +kernel
theorem d_M_come_14 : decode b_M_come 14 = .ok (.iload_n 2, 1) := by decide +kernel
theorem d_M_come_15 : decode b_M_come 15 = .ok (.sipush 255, 3) := by decide +kernel
theorem d_M_come_18 : decode b_M_come 18 = .ok (.iand, 1) := by decide +kernel
theorem d_M_come_19 : decode b_M_come 19 = .ok (.invokevirtual 126, 3) := by decide +kernel
theorem d_M_come_22 : decode b_M_come 22 = .ok (.goto 4, 3) := by decide +kernel
theorem d_M_come_25 : decode b_M_come 25 = .ok (.iconst (-1), 1) := by decide +kernel
theorem d_M_come_26 : decode b_M_come 26 = .ok (.ireturn, 1) := by decide +kernel
theorem d_M_all_0 : decode b_M_all 0 = .ok (.aload_n 0, 1) := by decide +kernel
theorem d_M_all_1 : decode b_M_all 1 = .ok (.iconst 0, 1) := by decide +kernel
theorem d_M_all_2 : decode b_M_all 2 = .ok (.putfield 48, 3) := by decide +kernel
theorem d_M_all_5 : decode b_M_all 5 = .ok (.iload_n 1, 1) := by decide +kernel
theorem d_M_all_6 : decode b_M_all 6 = .ok (.invokestatic 69, 3) := by decide +kernel
theorem d_M_all_9 : decode b_M_all 9 = .ok (.ifCond .ne 5, 3) := by decide +kernel
theorem d_M_all_12 : decode b_M_all 12 = .ok (.iconst (-1), 1) := by decide +kernel
theorem d_M_all_13 : decode b_M_all 13 = .ok (.ireturn, 1) := by decide +kernel
theorem d_M_all_14 : decode b_M_all 14 = .ok (.iconst 0, 1) := by decide +kernel
theorem d_M_all_15 : decode b_M_all 15 = .ok (.istore_n 2, 1) := by decide +kernel
theorem d_M_all_16 : decode b_M_all 16 = .ok (.iconst 0, 1) := by decide +kernel
theorem d_M_all_17 : decode b_M_all 17 = .ok (.istore_n 3, 1) := by decide +kernel
theorem d_M_all_18 : decode b_M_all 18 = .ok (.iload_n 3, 1) := by decide +kernel
theorem d_M_all_19 : decode b_M_all 19 = .ok (.aload_n 0, 1) := by decide +kernel
theorem d_M_all_20 : decode b_M_all 20 = .ok (.getfield 84, 3) := by decide +kernel
theorem d_M_all_23 : decode b_M_all 23 = .ok (.if_icmp .ge 32, 3) := by decide +kernel
theorem d_M_all_26 : decode b_M_all 26 = .ok (.iload_n 2, 1) := by decide +kernel
theorem d_M_all_27 : decode b_M_all 27 = .ok (.aload_n 0, 1) := by decide +kernel
theorem d_M_all_28 : decode b_M_all 28 = .ok (.iload_n 1, 1) := by decide +kernel
theorem d_M_all_29 : decode b_M_all 29 = .ok (.aload_n 0, 1) := by decide +kernel
theorem d_M_all_30 : decode b_M_all 30 = .ok (.getfield 17, 3) := by decide +kernel
theorem d_M_all_33 : decode b_M_all 33 = .ok (.iload_n 3, 1) := by decide +kernel
theorem d_M_all_34 : decode b_M_all 34 = .ok (.iaload, 1) := by decide +kernel
theorem d_M_all_35 : decode b_M_all 35 = .ok (.invokevirtual 126, 3) := by decide +kernel
theorem d_M_all_38 : decode b_M_all 38 = .ok (.iconst 1, 1) := by decide +kernel
theorem d_M_all_39 : decode b_M_all 39 = .ok (.if_icmp .ne 7, 3) := by decide +kernel
theorem d_M_all_42 : decode b_M_all 42 = .ok (.iconst 1, 1) := by decide +kernel
theorem d_M_all_43 : decode b_M_all 43 = .ok (.goto 4, 3) := by decide +kernel
theorem d_M_all_46 : decode b_M_all 46 = .ok (.iconst 0, 1) := by decide +kernel
theorem d_M_all_47 : decode b_M_all 47 = .ok (.iadd, 1) := by decide +kernel
theorem d_M_all_48 : decode b_M_all 48 = .ok (.istore_n 2, 1) := by decide +kernel
theorem d_M_all_49 : decode b_M_all 49 = .ok (.iinc 3 1, 3) := by decide +kernel
theorem d_M_all_52 : decode b_M_all 52 = .ok (.goto (-34), 3) := by decide +kernel
theorem d_M_all_55 : decode b_M_all 55 = .ok (.aload_n 0, 1) := by decide +kernel
theorem d_M_all_56 : decode b_M_all 56 = .ok (.iconst 0, 1) := by decide +kernel
theorem d_M_all_57 : decode b_M_all 57 = .ok (.putfield 84, 3) := by decide +kernel
theorem d_M_all_60 : decode b_M_all 60 = .ok (.iload_n 2, 1) := by decide +kernel
theorem d_M_all_61 : decode b_M_all 61 = .ok (.ireturn, 1) := by decide +kernel
theorem d_M_raw_0 : decode b_M_raw 0 = .ok (.aload_n 0, 1) := by decide +kernel
theorem d_M_raw_1 : decode b_M_raw 1 = .ok (.iconst 0, 1) := by decide +kernel
theorem d_M_raw_2 : decode b_M_raw 2 = .ok (.putfield 48, 3) := by decide +kernel
theorem d_M_raw_5 : decode b_M_raw 5 = .ok (.aload_n 0, 1) := by decide +kernel
theorem d_M_raw_6 : decode b_M_raw 6 = .ok (.getfield 51, 3) := by decide +kernel
theorem d_M_raw_9 : decode b_M_raw 9 = .ok (.istore_n 2, 1) := by decide +kernel
theorem d_M_raw_10 : decode b_M_raw 10 = .ok (.aload_n 0, 1) := by decide +kernel
theorem d_M_raw_11 : decode b_M_raw 11 = .ok (.iconst 0, 1) := by decide +kernel
theorem d_M_raw_12 : decode b_M_raw 12 = .ok (.putfield 51, 3) := by decide +kernel
theorem d_M_raw_15 : decode b_M_raw 15 = .ok (.iload_n 1, 1) := by decide +kernel
theorem d_M_raw_16 : decode b_M_raw 16 = .ok (.invokestatic 69, 3) := by decide +kernel
theorem d_M_raw_19 : decode b_M_raw 19 = .ok (.ifCond .ne 5, 3) := by decide +kernel
theorem d_M_raw_22 : decode b_M_raw 22 = .ok (.iconst (-1), 1) := by decide +kernel
theorem d_M_raw_23 : decode b_M_raw 23 = .ok (.ireturn, 1) := by decide +kernel
theorem d_M_raw_24 : decode b_M_raw 24 = .ok (.iconst 0, 1) := by decide +kernel
theorem d_M_raw_25 : decode b_M_raw 25 = .ok (.istore_n 3, 1) := by decide +kernel
theorem d_M_raw_26 : decode b_M_raw 26 = .ok (.iconst 0, 1) := by decide +kernel
theorem d_M_raw_27 : decode b_M_raw 27 = .ok (.istore 4, 2) := by decide +kernel
theorem d_M_raw_29 : decode b_M_raw 29 = .ok (.iload 4, 2) := by decide +kernel
theorem d_M_raw_31 : decode b_M_raw 31 = .ok (.iload_n 2, 1) := by decide +kernel
theorem d_M_raw_32 : decode b_M_raw 32 = .ok (.if_icmp .ge 33, 3) := by decide +kernel
theorem d_M_raw_35 : decode b_M_raw 35 = .ok (.iload_n 3, 1) := by decide +kernel
theorem d_M_raw_36 : decode b_M_raw 36 = .ok (.aload_n 0, 1) := by decide +kernel
theorem d_M_raw_37 : decode b_M_raw 37 = .ok (.iload_n 1, 1) := by decide +kernel
theorem d_M_raw_38 : decode b_M_raw 38 = .ok (.aload_n 0, 1) := by decide +kernel
theorem d_M_raw_39 : decode b_M_raw 39 = .ok (.getfield 7, 3) := by decide +kernel
theorem d_M_raw_42 : decode b_M_raw 42 = .ok (.iload 4, 2) := by decide +kernel
theorem d_M_raw_44 : decode b_M_raw 44 = .ok (.iaload, 1) := by decide +kernel
theorem d_M_raw_45 : decode b_M_raw 45 = .ok (.invokevirtual 126, 3) := by decide +kernel
theorem d_M_raw_48 : decode b_M_raw 48 = .ok (.iconst 1, 1) := by decide +kernel
theorem d_M_raw_49 : decode b_M_raw 49 = .ok (.if_icmp .ne 7, 3) := by decide +kernel
theorem d_M_raw_52 : decode b_M_raw 52 = .ok (.iconst 1, 1) := by decide +kernel
theorem d_M_raw_53 : decode b_M_raw 53 = .ok (.goto 4, 3) := by decide +kernel
theorem d_M_raw_56 : decode b_M_raw 56 = .ok (.iconst 0, 1) := by decide +kernel
theorem d_M_raw_57 : decode b_M_raw 57 = .ok (.iadd, 1) := by decide +kernel
theorem d_M_raw_58 : decode b_M_raw 58 = .ok (.istore_n 3, 1) := by decide +kernel
theorem d_M_raw_59 : decode b_M_raw 59 = .ok (.iinc 4 1, 3) := by decide +kernel
theorem d_M_raw_62 : decode b_M_raw 62 = .ok (.goto (-33), 3) := by decide +kernel
theorem d_M_raw_65 : decode b_M_raw 65 = .ok (.iload_n 3, 1) := by decide +kernel
theorem d_M_raw_66 : decode b_M_raw 66 = .ok (.ireturn, 1) := by decide +kernel
theorem d_M_latest_0 : decode b_M_latest 0 = .ok (.aload_n 0, 1) := by decide +kernel
theorem d_M_latest_1 : decode b_M_latest 1 = .ok (.iconst 0, 1) := by decide +kernel
theorem d_M_latest_2 : decode b_M_latest 2 = .ok (.putfield 48, 3) := by decide +kernel
theorem d_M_latest_5 : decode b_M_latest 5 = .ok (.iload_n 1, 1) := by decide +kernel
theorem d_M_latest_6 : decode b_M_latest 6 = .ok (.invokestatic 69, 3) := by decide +kernel
theorem d_M_latest_9 : decode b_M_latest 9 = .ok (.ifCond .eq 12, 3) := by decide +kernel
theorem d_M_latest_12 : decode b_M_latest 12 = .ok (.aload_n 0, 1) := by decide +kernel
theorem d_M_latest_13 : decode b_M_latest 13 = .ok (.getfield 39, 3) := by decide +kernel
theorem d_M_latest_16 : decode b_M_latest 16 = .ok (.iload_n 1, 1) := by decide +kernel
theorem d_M_latest_17 : decode b_M_latest 17 = .ok (.iaload, 1) := by decide +kernel
theorem d_M_latest_18 : decode b_M_latest 18 = .ok (.goto 4, 3) := by decide +kernel
theorem d_M_latest_21 : decode b_M_latest 21 = .ok (.iconst (-1), 1) := by decide +kernel
theorem d_M_latest_22 : decode b_M_latest 22 = .ok (.ireturn, 1) := by decide +kernel
theorem d_M_latestAt_0 : decode b_M_latestAt 0 = .ok (.aload_n 0, 1) := by decide +kernel
theorem d_M_latestAt_1 : decode b_M_latestAt 1 = .ok (.iconst 0, 1) := by decide +kernel
theorem d_M_latestAt_2 : decode b_M_latestAt 2 = .ok (.putfield 48, 3) := by decide +kernel
theorem d_M_latestAt_5 : decode b_M_latestAt 5 = .ok (.iload_n 1, 1) := by decide +kernel
theorem d_M_latestAt_6 : decode b_M_latestAt 6 = .ok (.invokestatic 69, 3) := by decide +kernel
theorem d_M_latestAt_9 : decode b_M_latestAt 9 = .ok (.ifCond .eq 32, 3) := by decide +kernel
theorem d_M_latestAt_12 : decode b_M_latestAt 12 = .ok (.iload_n 2, 1) := by decide +kernel
theorem d_M_latestAt_13 : decode b_M_latestAt 13 = .ok (.ifCond .lt 28, 3) := by decide +kernel
theorem d_M_latestAt_16 : decode b_M_latestAt 16 = .ok (.iload_n 2, 1) := by decide +kernel
theorem d_M_latestAt_17 : decode b_M_latestAt 17 = .ok (.aload_n 0, 1) := by decide +kernel
theorem d_M_latestAt_18 : decode b_M_latestAt 18 = .ok (.getfield 39, 3) := by decide +kernel
theorem d_M_latestAt_21 : decode b_M_latestAt 21 = .ok (.iload_n 1, 1) := by decide +kernel
theorem d_M_latestAt_22 : decode b_M_latestAt 22 = .ok (.iaload, 1) := by decide +kernel
theorem d_M_latestAt_23 : decode b_M_latestAt 23 = .ok (.if_icmp .ge 18, 3) := by decide +kernel
theorem d_M_latestAt_26 : decode b_M_latestAt 26 = .ok (.aload_n 0, 1) := by decide +kernel
theorem d_M_latestAt_27 : decode b_M_latestAt 27 = .ok (.getfield 42, 3) := by decide +kernel
theorem d_M_latestAt_30 : decode b_M_latestAt 30 = .ok (.sipush 400, 3) := by decide +kernel
theorem d_M_latestAt_33 : decode b_M_latestAt 33 = .ok (.iload_n 1, 1) := by decide +kernel
theorem d_M_latestAt_34 : decode b_M_latestAt 34 = .ok (.imul, 1) := by decide +kernel
theorem d_M_latestAt_35 : decode b_M_latestAt 35 = .ok (.iload_n 2, 1) := by decide +kernel
theorem d_M_latestAt_36 : decode b_M_latestAt 36 = .ok (.iadd, 1) := by decide +kernel
theorem d_M_latestAt_37 : decode b_M_latestAt 37 = .ok (.iaload, 1) := by decide +kernel
theorem d_M_latestAt_38 : decode b_M_latestAt 38 = .ok (.goto 4, 3) := by decide +kernel
theorem d_M_latestAt_41 : decode b_M_latestAt 41 = .ok (.iconst (-1), 1) := by decide +kernel
theorem d_M_latestAt_42 : decode b_M_latestAt 42 = .ok (.ireturn, 1) := by decide +kernel
theorem d_M_count_0 : decode b_M_count 0 = .ok (.aload_n 0, 1) := by decide +kernel
theorem d_M_count_1 : decode b_M_count 1 = .ok (.iconst 0, 1) := by decide +kernel
theorem d_M_count_2 : decode b_M_count 2 = .ok (.putfield 48, 3) := by decide +kernel
theorem d_M_count_5 : decode b_M_count 5 = .ok (.iload_n 1, 1) := by decide +kernel
theorem d_M_count_6 : decode b_M_count 6 = .ok (.invokestatic 69, 3) := by decide +kernel
theorem d_M_count_9 : decode b_M_count 9 = .ok (.ifCond .eq 26, 3) := by decide +kernel
theorem d_M_count_12 : decode b_M_count 12 = .ok (.iload_n 2, 1) := by decide +kernel
theorem d_M_count_13 : decode b_M_count 13 = .ok (.iconst 1, 1) := by decide +kernel
theorem d_M_count_14 : decode b_M_count 14 = .ok (.if_icmp .lt 21, 3) := by decide +kernel
theorem d_M_count_17 : decode b_M_count 17 = .ok (.iload_n 2, 1) := by decide +kernel
theorem d_M_count_18 : decode b_M_count 18 = .ok (.iconst 3, 1) := by decide +kernel
theorem d_M_count_19 : decode b_M_count 19 = .ok (.if_icmp .gt 16, 3) := by decide +kernel
theorem d_M_count_22 : decode b_M_count 22 = .ok (.aload_n 0, 1) := by decide +kernel
theorem d_M_count_23 : decode b_M_count 23 = .ok (.getfield 45, 3) := by decide +kernel
theorem d_M_count_26 : decode b_M_count 26 = .ok (.iconst 4, 1) := by decide +kernel
theorem d_M_count_27 : decode b_M_count 27 = .ok (.iload_n 1, 1) := by decide +kernel
theorem d_M_count_28 : decode b_M_count 28 = .ok (.imul, 1) := by decide +kernel
theorem d_M_count_29 : decode b_M_count 29 = .ok (.iload_n 2, 1) := by decide +kernel
theorem d_M_count_30 : decode b_M_count 30 = .ok (.iadd, 1) := by decide +kernel
theorem d_M_count_31 : decode b_M_count 31 = .ok (.iaload, 1) := by decide +kernel
theorem d_M_count_32 : decode b_M_count 32 = .ok (.goto 4, 3) := by decide +kernel
theorem d_M_count_35 : decode b_M_count 35 = .ok (.iconst (-1), 1) := by decide +kernel
theorem d_M_count_36 : decode b_M_count 36 = .ok (.ireturn, 1) := by decide +kernel
