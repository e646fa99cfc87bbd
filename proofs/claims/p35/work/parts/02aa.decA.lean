theorem dX0_init_0 : decode cX0_init 0 = .ok (.aload_n 0, 1) := by decide +kernel
theorem dX0_init_1 : decode cX0_init 1 = .ok (.invokespecial 3, 3) := by decide +kernel
theorem dX0_init_4 : decode cX0_init 4 = .ok (.aload_n 0, 1) := by decide +kernel
theorem dX0_init_5 : decode cX0_init 5 = .ok (.bipush 6, 2) := by decide +kernel
theorem dX0_init_7 : decode cX0_init 7 = .ok (.newarray .int, 2) := by decide +kernel
theorem dX0_init_9 : decode cX0_init 9 = .ok (.putfield 9, 3) := by decide +kernel
theorem dX0_init_12 : decode cX0_init 12 = .ok (.aload_n 0, 1) := by decide +kernel
theorem dX0_init_13 : decode cX0_init 13 = .ok (.bipush 6, 2) := by decide +kernel
theorem dX0_init_15 : decode cX0_init 15 = .ok (.newarray .int, 2) := by decide +kernel
theorem dX0_init_17 : decode cX0_init 17 = .ok (.putfield 15, 3) := by decide +kernel
theorem dX0_init_20 : decode cX0_init 20 = .ok (.aload_n 0, 1) := by decide +kernel
theorem dX0_init_21 : decode cX0_init 21 = .ok (.bipush 6, 2) := by decide +kernel
theorem dX0_init_23 : decode cX0_init 23 = .ok (.newarray .int, 2) := by decide +kernel
theorem dX0_init_25 : decode cX0_init 25 = .ok (.putfield 18, 3) := by decide +kernel
theorem dX0_init_28 : decode cX0_init 28 = .ok (.return_, 1) := by decide +kernel
theorem dX0_workOut_0 : decode cX0_workOut 0 = .ok (.aload_n 1, 1) := by decide +kernel
theorem dX0_workOut_1 : decode cX0_workOut 1 = .ok (.ifnonnull 4, 3) := by decide +kernel
theorem dX0_workOut_4 : decode cX0_workOut 4 = .ok (.return_, 1) := by decide +kernel
theorem dX0_workOut_5 : decode cX0_workOut 5 = .ok (.aload_n 0, 1) := by decide +kernel
theorem dX0_workOut_6 : decode cX0_workOut 6 = .ok (.aload_n 1, 1) := by decide +kernel
theorem dX0_workOut_7 : decode cX0_workOut 7 = .ok (.invokevirtual 21, 3) := by decide +kernel
theorem dX0_workOut_10 : decode cX0_workOut 10 = .ok (.bipush 6, 2) := by decide +kernel
theorem dX0_workOut_12 : decode cX0_workOut 12 = .ok (.invokestatic 27, 3) := by decide +kernel
theorem dX0_workOut_15 : decode cX0_workOut 15 = .ok (.putfield 33, 3) := by decide +kernel
theorem dX0_workOut_18 : decode cX0_workOut 18 = .ok (.aload_n 0, 1) := by decide +kernel
theorem dX0_workOut_19 : decode cX0_workOut 19 = .ok (.iconst 1, 1) := by decide +kernel
theorem dX0_workOut_20 : decode cX0_workOut 20 = .ok (.aload_n 1, 1) := by decide +kernel
theorem dX0_workOut_21 : decode cX0_workOut 21 = .ok (.invokevirtual 36, 3) := by decide +kernel
theorem dX0_workOut_24 : decode cX0_workOut 24 = .ok (.ishl, 1) := by decide +kernel
theorem dX0_workOut_25 : decode cX0_workOut 25 = .ok (.iconst 1, 1) := by decide +kernel
theorem dX0_workOut_26 : decode cX0_workOut 26 = .ok (.isub, 1) := by decide +kernel
theorem dX0_workOut_27 : decode cX0_workOut 27 = .ok (.aload_n 1, 1) := by decide +kernel
theorem dX0_workOut_28 : decode cX0_workOut 28 = .ok (.iload_n 2, 1) := by decide +kernel
theorem dX0_workOut_29 : decode cX0_workOut 29 = .ok (.invokevirtual 39, 3) := by decide +kernel
theorem dX0_workOut_32 : decode cX0_workOut 32 = .ok (.iconst (-1), 1) := by decide +kernel
theorem dX0_workOut_33 : decode cX0_workOut 33 = .ok (.ixor, 1) := by decide +kernel
theorem dX0_workOut_34 : decode cX0_workOut 34 = .ok (.iand, 1) := by decide +kernel
theorem dX0_workOut_35 : decode cX0_workOut 35 = .ok (.putfield 43, 3) := by decide +kernel
theorem dX0_workOut_38 : decode cX0_workOut 38 = .ok (.aload_n 0, 1) := by decide +kernel
theorem dX0_workOut_39 : decode cX0_workOut 39 = .ok (.aload_n 1, 1) := by decide +kernel
theorem dX0_workOut_40 : decode cX0_workOut 40 = .ok (.iload_n 2, 1) := by decide +kernel
theorem dX0_workOut_41 : decode cX0_workOut 41 = .ok (.invokevirtual 46, 3) := by decide +kernel
theorem dX0_workOut_44 : decode cX0_workOut 44 = .ok (.putfield 49, 3) := by decide +kernel
theorem dX0_workOut_47 : decode cX0_workOut 47 = .ok (.aload_n 0, 1) := by decide +kernel
theorem dX0_workOut_48 : decode cX0_workOut 48 = .ok (.aload_n 1, 1) := by decide +kernel
theorem dX0_workOut_49 : decode cX0_workOut 49 = .ok (.iload_n 2, 1) := by decide +kernel
theorem dX0_workOut_50 : decode cX0_workOut 50 = .ok (.invokevirtual 52, 3) := by decide +kernel
theorem dX0_workOut_53 : decode cX0_workOut 53 = .ok (.putfield 55, 3) := by decide +kernel
theorem dX0_workOut_56 : decode cX0_workOut 56 = .ok (.aload_n 0, 1) := by decide +kernel
theorem dX0_workOut_57 : decode cX0_workOut 57 = .ok (.aload_n 0, 1) := by decide +kernel
theorem dX0_workOut_58 : decode cX0_workOut 58 = .ok (.getfield 33, 3) := by decide +kernel
theorem dX0_workOut_61 : decode cX0_workOut 61 = .ok (.ifCond .ne 7, 3) := by decide +kernel
theorem dX0_workOut_64 : decode cX0_workOut 64 = .ok (.iconst 1, 1) := by decide +kernel
theorem dX0_workOut_65 : decode cX0_workOut 65 = .ok (.goto 4, 3) := by decide +kernel
theorem dX0_workOut_68 : decode cX0_workOut 68 = .ok (.iconst 0, 1) := by decide +kernel
theorem dX0_workOut_69 : decode cX0_workOut 69 = .ok (.putfield 58, 3) := by decide +kernel
theorem dX0_workOut_72 : decode cX0_workOut 72 = .ok (.aload_n 0, 1) := by decide +kernel
theorem dX0_workOut_73 : decode cX0_workOut 73 = .ok (.iconst 0, 1) := by decide +kernel
theorem dX0_workOut_74 : decode cX0_workOut 74 = .ok (.putfield 62, 3) := by decide +kernel
theorem dX0_workOut_77 : decode cX0_workOut 77 = .ok (.iconst 0, 1) := by decide +kernel
theorem dX0_workOut_78 : decode cX0_workOut 78 = .ok (.istore_n 3, 1) := by decide +kernel
theorem dX0_workOut_79 : decode cX0_workOut 79 = .ok (.iconst 0, 1) := by decide +kernel
theorem dX0_workOut_80 : decode cX0_workOut 80 = .ok (.istore 4, 2) := by decide +kernel
theorem dX0_workOut_82 : decode cX0_workOut 82 = .ok (.iload 4, 2) := by decide +kernel
theorem dX0_workOut_84 : decode cX0_workOut 84 = .ok (.aload_n 0, 1) := by decide +kernel
theorem dX0_workOut_85 : decode cX0_workOut 85 = .ok (.getfield 33, 3) := by decide +kernel
theorem dX0_workOut_88 : decode cX0_workOut 88 = .ok (.if_icmp .ge 57, 3) := by decide +kernel
theorem dX0_workOut_91 : decode cX0_workOut 91 = .ok (.aload_n 0, 1) := by decide +kernel
theorem dX0_workOut_92 : decode cX0_workOut 92 = .ok (.aload_n 1, 1) := by decide +kernel
theorem dX0_workOut_93 : decode cX0_workOut 93 = .ok (.iload_n 2, 1) := by decide +kernel
theorem dX0_workOut_94 : decode cX0_workOut 94 = .ok (.iload 4, 2) := by decide +kernel
theorem dX0_workOut_96 : decode cX0_workOut 96 = .ok (.invokevirtual 65, 3) := by decide +kernel
theorem dX0_workOut_99 : decode cX0_workOut 99 = .ok (.iload_n 3, 1) := by decide +kernel
theorem dX0_workOut_100 : decode cX0_workOut 100 = .ok (.aload_n 1, 1) := by decide +kernel
theorem dX0_workOut_101 : decode cX0_workOut 101 = .ok (.aload_n 0, 1) := by decide +kernel
theorem dX0_workOut_102 : decode cX0_workOut 102 = .ok (.getfield 9, 3) := by decide +kernel
theorem dX0_workOut_105 : decode cX0_workOut 105 = .ok (.iload 4, 2) := by decide +kernel
theorem dX0_workOut_107 : decode cX0_workOut 107 = .ok (.iaload, 1) := by decide +kernel
theorem dX0_workOut_108 : decode cX0_workOut 108 = .ok (.invokevirtual 69, 3) := by decide +kernel
theorem dX0_workOut_111 : decode cX0_workOut 111 = .ok (.iadd, 1) := by decide +kernel
theorem dX0_workOut_112 : decode cX0_workOut 112 = .ok (.istore_n 3, 1) := by decide +kernel
theorem dX0_workOut_113 : decode cX0_workOut 113 = .ok (.aload_n 0, 1) := by decide +kernel
theorem dX0_workOut_114 : decode cX0_workOut 114 = .ok (.aload_n 0, 1) := by decide +kernel
theorem dX0_workOut_115 : decode cX0_workOut 115 = .ok (.getfield 58, 3) := by decide +kernel
theorem dX0_workOut_118 : decode cX0_workOut 118 = .ok (.ifCond .ne 13, 3) := by decide +kernel
theorem dX0_workOut_121 : decode cX0_workOut 121 = .ok (.aload_n 0, 1) := by decide +kernel
theorem dX0_workOut_122 : decode cX0_workOut 122 = .ok (.getfield 15, 3) := by decide +kernel
theorem dX0_workOut_125 : decode cX0_workOut 125 = .ok (.iload 4, 2) := by decide +kernel
theorem dX0_workOut_127 : decode cX0_workOut 127 = .ok (.iaload, 1) := by decide +kernel
theorem dX0_workOut_128 : decode cX0_workOut 128 = .ok (.ifCond .ne 7, 3) := by decide +kernel
theorem dX0_workOut_131 : decode cX0_workOut 131 = .ok (.iconst 1, 1) := by decide +kernel
theorem dX0_workOut_132 : decode cX0_workOut 132 = .ok (.goto 4, 3) := by decide +kernel
theorem dX0_workOut_135 : decode cX0_workOut 135 = .ok (.iconst 0, 1) := by decide +kernel
theorem dX0_workOut_136 : decode cX0_workOut 136 = .ok (.putfield 58, 3) := by decide +kernel
theorem dX0_workOut_139 : decode cX0_workOut 139 = .ok (.iinc 4 1, 3) := by decide +kernel
theorem dX0_workOut_142 : decode cX0_workOut 142 = .ok (.goto (-60), 3) := by decide +kernel
theorem dX0_workOut_145 : decode cX0_workOut 145 = .ok (.aload_n 0, 1) := by decide +kernel
theorem dX0_workOut_146 : decode cX0_workOut 146 = .ok (.getfield 58, 3) := by decide +kernel
theorem dX0_workOut_149 : decode cX0_workOut 149 = .ok (.ifCond .eq 8, 3) := by decide +kernel
theorem dX0_workOut_152 : decode cX0_workOut 152 = .ok (.aload_n 0, 1) := by decide +kernel
theorem dX0_workOut_153 : decode cX0_workOut 153 = .ok (.iconst 0, 1) := by decide +kernel
theorem dX0_workOut_154 : decode cX0_workOut 154 = .ok (.putfield 62, 3) := by decide +kernel
theorem dX0_workOut_157 : decode cX0_workOut 157 = .ok (.aload_n 0, 1) := by decide +kernel
theorem dX0_workOut_158 : decode cX0_workOut 158 = .ok (.aload_n 0, 1) := by decide +kernel
theorem dX0_workOut_159 : decode cX0_workOut 159 = .ok (.getfield 58, 3) := by decide +kernel
theorem dX0_workOut_162 : decode cX0_workOut 162 = .ok (.ifCond .eq 7, 3) := by decide +kernel
theorem dX0_workOut_165 : decode cX0_workOut 165 = .ok (.iconst 0, 1) := by decide +kernel
theorem dX0_workOut_166 : decode cX0_workOut 166 = .ok (.goto 16, 3) := by decide +kernel
theorem dX0_workOut_169 : decode cX0_workOut 169 = .ok (.aload_n 1, 1) := by decide +kernel
theorem dX0_workOut_170 : decode cX0_workOut 170 = .ok (.iconst 0, 1) := by decide +kernel
theorem dX0_workOut_171 : decode cX0_workOut 171 = .ok (.invokevirtual 72, 3) := by decide +kernel
theorem dX0_workOut_174 : decode cX0_workOut 174 = .ok (.aload_n 1, 1) := by decide +kernel
theorem dX0_workOut_175 : decode cX0_workOut 175 = .ok (.iconst 1, 1) := by decide +kernel
theorem dX0_workOut_176 : decode cX0_workOut 176 = .ok (.invokevirtual 72, 3) := by decide +kernel
theorem dX0_workOut_179 : decode cX0_workOut 179 = .ok (.iload_n 3, 1) := by decide +kernel
theorem dX0_workOut_180 : decode cX0_workOut 180 = .ok (.imul, 1) := by decide +kernel
theorem dX0_workOut_181 : decode cX0_workOut 181 = .ok (.iadd, 1) := by decide +kernel
theorem dX0_workOut_182 : decode cX0_workOut 182 = .ok (.putfield 75, 3) := by decide +kernel
theorem dX0_workOut_185 : decode cX0_workOut 185 = .ok (.return_, 1) := by decide +kernel
theorem dX0_choose_0 : decode cX0_choose 0 = .ok (.aload_n 0, 1) := by decide +kernel
theorem dX0_choose_1 : decode cX0_choose 1 = .ok (.aload_n 1, 1) := by decide +kernel
theorem dX0_choose_2 : decode cX0_choose 2 = .ok (.iload_n 3, 1) := by decide +kernel
theorem dX0_choose_3 : decode cX0_choose 3 = .ok (.invokevirtual 78, 3) := by decide +kernel
theorem dX0_choose_6 : decode cX0_choose 6 = .ok (.istore 4, 2) := by decide +kernel
theorem dX0_choose_8 : decode cX0_choose 8 = .ok (.iload 4, 2) := by decide +kernel
theorem dX0_choose_10 : decode cX0_choose 10 = .ok (.iconst (-1), 1) := by decide +kernel
theorem dX0_choose_11 : decode cX0_choose 11 = .ok (.if_icmp .eq 20, 3) := by decide +kernel
theorem dX0_choose_14 : decode cX0_choose 14 = .ok (.aload_n 0, 1) := by decide +kernel
theorem dX0_choose_15 : decode cX0_choose 15 = .ok (.iload_n 3, 1) := by decide +kernel
theorem dX0_choose_16 : decode cX0_choose 16 = .ok (.aload_n 1, 1) := by decide +kernel
theorem dX0_choose_17 : decode cX0_choose 17 = .ok (.iload 4, 2) := by decide +kernel
theorem dX0_choose_19 : decode cX0_choose 19 = .ok (.invokevirtual 82, 3) := by decide +kernel
theorem dX0_choose_22 : decode cX0_choose 22 = .ok (.iconst 1, 1) := by decide +kernel
theorem dX0_choose_23 : decode cX0_choose 23 = .ok (.iload 4, 2) := by decide +kernel
theorem dX0_choose_25 : decode cX0_choose 25 = .ok (.invokevirtual 85, 3) := by decide +kernel
theorem dX0_choose_28 : decode cX0_choose 28 = .ok (.goto 59, 3) := by decide +kernel
theorem dX0_choose_31 : decode cX0_choose 31 = .ok (.aload_n 0, 1) := by decide +kernel
theorem dX0_choose_32 : decode cX0_choose 32 = .ok (.aload_n 1, 1) := by decide +kernel
theorem dX0_choose_33 : decode cX0_choose 33 = .ok (.iload_n 3, 1) := by decide +kernel
theorem dX0_choose_34 : decode cX0_choose 34 = .ok (.iload_n 2, 1) := by decide +kernel
theorem dX0_choose_35 : decode cX0_choose 35 = .ok (.invokevirtual 89, 3) := by decide +kernel
theorem dX0_choose_38 : decode cX0_choose 38 = .ok (.invokevirtual 92, 3) := by decide +kernel
theorem dX0_choose_41 : decode cX0_choose 41 = .ok (.ifCond .eq 19, 3) := by decide +kernel
theorem dX0_choose_44 : decode cX0_choose 44 = .ok (.aload_n 0, 1) := by decide +kernel
theorem dX0_choose_45 : decode cX0_choose 45 = .ok (.iload_n 3, 1) := by decide +kernel
theorem dX0_choose_46 : decode cX0_choose 46 = .ok (.aload_n 1, 1) := by decide +kernel
theorem dX0_choose_47 : decode cX0_choose 47 = .ok (.iload_n 3, 1) := by decide +kernel
theorem dX0_choose_48 : decode cX0_choose 48 = .ok (.iload_n 2, 1) := by decide +kernel
theorem dX0_choose_49 : decode cX0_choose 49 = .ok (.invokevirtual 89, 3) := by decide +kernel
theorem dX0_choose_52 : decode cX0_choose 52 = .ok (.iconst 2, 1) := by decide +kernel
theorem dX0_choose_53 : decode cX0_choose 53 = .ok (.iconst (-1), 1) := by decide +kernel
theorem dX0_choose_54 : decode cX0_choose 54 = .ok (.invokevirtual 85, 3) := by decide +kernel
theorem dX0_choose_57 : decode cX0_choose 57 = .ok (.goto 30, 3) := by decide +kernel
theorem dX0_choose_60 : decode cX0_choose 60 = .ok (.aload_n 0, 1) := by decide +kernel
theorem dX0_choose_61 : decode cX0_choose 61 = .ok (.aload_n 1, 1) := by decide +kernel
theorem dX0_choose_62 : decode cX0_choose 62 = .ok (.iload_n 3, 1) := by decide +kernel
theorem dX0_choose_63 : decode cX0_choose 63 = .ok (.invokevirtual 96, 3) := by decide +kernel
theorem dX0_choose_66 : decode cX0_choose 66 = .ok (.istore 5, 2) := by decide +kernel
theorem dX0_choose_68 : decode cX0_choose 68 = .ok (.aload_n 0, 1) := by decide +kernel
theorem dX0_choose_69 : decode cX0_choose 69 = .ok (.iload_n 3, 1) := by decide +kernel
theorem dX0_choose_70 : decode cX0_choose 70 = .ok (.iload 5, 2) := by decide +kernel
theorem dX0_choose_72 : decode cX0_choose 72 = .ok (.iload 5, 2) := by decide +kernel
theorem dX0_choose_74 : decode cX0_choose 74 = .ok (.iconst (-1), 1) := by decide +kernel
theorem dX0_choose_75 : decode cX0_choose 75 = .ok (.if_icmp .ne 7, 3) := by decide +kernel
theorem dX0_choose_78 : decode cX0_choose 78 = .ok (.iconst 0, 1) := by decide +kernel
theorem dX0_choose_79 : decode cX0_choose 79 = .ok (.goto 4, 3) := by decide +kernel
theorem dX0_choose_82 : decode cX0_choose 82 = .ok (.iconst 3, 1) := by decide +kernel
theorem dX0_choose_83 : decode cX0_choose 83 = .ok (.iconst (-1), 1) := by decide +kernel
theorem dX0_choose_84 : decode cX0_choose 84 = .ok (.invokevirtual 85, 3) := by decide +kernel
theorem dX0_choose_87 : decode cX0_choose 87 = .ok (.return_, 1) := by decide +kernel
theorem dX0_bestSlip_0 : decode cX0_bestSlip 0 = .ok (.iconst (-1), 1) := by decide +kernel
theorem dX0_bestSlip_1 : decode cX0_bestSlip 1 = .ok (.istore_n 3, 1) := by decide +kernel
theorem dX0_bestSlip_2 : decode cX0_bestSlip 2 = .ok (.iconst 0, 1) := by decide +kernel
theorem dX0_bestSlip_3 : decode cX0_bestSlip 3 = .ok (.istore 4, 2) := by decide +kernel
theorem dX0_bestSlip_5 : decode cX0_bestSlip 5 = .ok (.iload 4, 2) := by decide +kernel
theorem dX0_bestSlip_7 : decode cX0_bestSlip 7 = .ok (.bipush 20, 2) := by decide +kernel
theorem dX0_bestSlip_9 : decode cX0_bestSlip 9 = .ok (.if_icmp .ge 71, 3) := by decide +kernel
theorem dX0_bestSlip_12 : decode cX0_bestSlip 12 = .ok (.aload_n 0, 1) := by decide +kernel
theorem dX0_bestSlip_13 : decode cX0_bestSlip 13 = .ok (.getfield 55, 3) := by decide +kernel
theorem dX0_bestSlip_16 : decode cX0_bestSlip 16 = .ok (.iload 4, 2) := by decide +kernel
theorem dX0_bestSlip_18 : decode cX0_bestSlip 18 = .ok (.iushr, 1) := by decide +kernel
theorem dX0_bestSlip_19 : decode cX0_bestSlip 19 = .ok (.ifCond .eq 61, 3) := by decide +kernel
theorem dX0_bestSlip_22 : decode cX0_bestSlip 22 = .ok (.aload_n 0, 1) := by decide +kernel
theorem dX0_bestSlip_23 : decode cX0_bestSlip 23 = .ok (.getfield 55, 3) := by decide +kernel
theorem dX0_bestSlip_26 : decode cX0_bestSlip 26 = .ok (.iload 4, 2) := by decide +kernel
theorem dX0_bestSlip_28 : decode cX0_bestSlip 28 = .ok (.invokestatic 99, 3) := by decide +kernel
theorem dX0_bestSlip_31 : decode cX0_bestSlip 31 = .ok (.ifCond .eq 43, 3) := by decide +kernel
theorem dX0_bestSlip_34 : decode cX0_bestSlip 34 = .ok (.aload_n 1, 1) := by decide +kernel
theorem dX0_bestSlip_35 : decode cX0_bestSlip 35 = .ok (.iload 4, 2) := by decide +kernel
theorem dX0_bestSlip_37 : decode cX0_bestSlip 37 = .ok (.invokevirtual 103, 3) := by decide +kernel
theorem dX0_bestSlip_40 : decode cX0_bestSlip 40 = .ok (.iload_n 2, 1) := by decide +kernel
theorem dX0_bestSlip_41 : decode cX0_bestSlip 41 = .ok (.if_icmp .ne 33, 3) := by decide +kernel
theorem dX0_bestSlip_44 : decode cX0_bestSlip 44 = .ok (.aload_n 0, 1) := by decide +kernel
theorem dX0_bestSlip_45 : decode cX0_bestSlip 45 = .ok (.aload_n 1, 1) := by decide +kernel
theorem dX0_bestSlip_46 : decode cX0_bestSlip 46 = .ok (.iload 4, 2) := by decide +kernel
theorem dX0_bestSlip_48 : decode cX0_bestSlip 48 = .ok (.invokevirtual 82, 3) := by decide +kernel
theorem dX0_bestSlip_51 : decode cX0_bestSlip 51 = .ok (.invokevirtual 92, 3) := by decide +kernel
theorem dX0_bestSlip_54 : decode cX0_bestSlip 54 = .ok (.ifCond .eq 20, 3) := by decide +kernel
theorem dX0_bestSlip_57 : decode cX0_bestSlip 57 = .ok (.aload_n 1, 1) := by decide +kernel
theorem dX0_bestSlip_58 : decode cX0_bestSlip 58 = .ok (.iload 4, 2) := by decide +kernel
theorem dX0_bestSlip_60 : decode cX0_bestSlip 60 = .ok (.invokevirtual 106, 3) := by decide +kernel
theorem dX0_bestSlip_63 : decode cX0_bestSlip 63 = .ok (.aload_n 1, 1) := by decide +kernel
theorem dX0_bestSlip_64 : decode cX0_bestSlip 64 = .ok (.iload_n 3, 1) := by decide +kernel
theorem dX0_bestSlip_65 : decode cX0_bestSlip 65 = .ok (.invokevirtual 106, 3) := by decide +kernel
theorem dX0_bestSlip_68 : decode cX0_bestSlip 68 = .ok (.if_icmp .lt 6, 3) := by decide +kernel
theorem dX0_bestSlip_71 : decode cX0_bestSlip 71 = .ok (.iload 4, 2) := by decide +kernel
theorem dX0_bestSlip_73 : decode cX0_bestSlip 73 = .ok (.istore_n 3, 1) := by decide +kernel
theorem dX0_bestSlip_74 : decode cX0_bestSlip 74 = .ok (.iinc 4 1, 3) := by decide +kernel
theorem dX0_bestSlip_77 : decode cX0_bestSlip 77 = .ok (.goto (-72), 3) := by decide +kernel
theorem dX0_bestSlip_80 : decode cX0_bestSlip 80 = .ok (.iload_n 3, 1) := by decide +kernel
theorem dX0_bestSlip_81 : decode cX0_bestSlip 81 = .ok (.ireturn, 1) := by decide +kernel
theorem dX0_bestUnderstudyOf_0 : decode cX0_bestUnderstudyOf 0 = .ok (.iconst 0, 1) := by decide +kernel
theorem dX0_bestUnderstudyOf_1 : decode cX0_bestUnderstudyOf 1 = .ok (.istore_n 3, 1) := by decide +kernel
theorem dX0_bestUnderstudyOf_2 : decode cX0_bestUnderstudyOf 2 = .ok (.iload_n 3, 1) := by decide +kernel
theorem dX0_bestUnderstudyOf_3 : decode cX0_bestUnderstudyOf 3 = .ok (.aload_n 1, 1) := by decide +kernel
theorem dX0_bestUnderstudyOf_4 : decode cX0_bestUnderstudyOf 4 = .ok (.iload_n 2, 1) := by decide +kernel
theorem dX0_bestUnderstudyOf_5 : decode cX0_bestUnderstudyOf 5 = .ok (.invokevirtual 109, 3) := by decide +kernel
theorem dX0_bestUnderstudyOf_8 : decode cX0_bestUnderstudyOf 8 = .ok (.if_icmp .ge 41, 3) := by decide +kernel
theorem dX0_bestUnderstudyOf_11 : decode cX0_bestUnderstudyOf 11 = .ok (.aload_n 1, 1) := by decide +kernel
theorem dX0_bestUnderstudyOf_12 : decode cX0_bestUnderstudyOf 12 = .ok (.iload_n 2, 1) := by decide +kernel
theorem dX0_bestUnderstudyOf_13 : decode cX0_bestUnderstudyOf 13 = .ok (.iload_n 3, 1) := by decide +kernel
theorem dX0_bestUnderstudyOf_14 : decode cX0_bestUnderstudyOf 14 = .ok (.invokevirtual 112, 3) := by decide +kernel
theorem dX0_bestUnderstudyOf_17 : decode cX0_bestUnderstudyOf 17 = .ok (.istore 4, 2) := by decide +kernel
theorem dX0_bestUnderstudyOf_19 : decode cX0_bestUnderstudyOf 19 = .ok (.aload_n 0, 1) := by decide +kernel
theorem dX0_bestUnderstudyOf_20 : decode cX0_bestUnderstudyOf 20 = .ok (.iload 4, 2) := by decide +kernel
theorem dX0_bestUnderstudyOf_22 : decode cX0_bestUnderstudyOf 22 = .ok (.invokevirtual 92, 3) := by decide +kernel
theorem dX0_bestUnderstudyOf_25 : decode cX0_bestUnderstudyOf 25 = .ok (.ifCond .eq 18, 3) := by decide +kernel
theorem dX0_bestUnderstudyOf_28 : decode cX0_bestUnderstudyOf 28 = .ok (.aload_n 0, 1) := by decide +kernel
theorem dX0_bestUnderstudyOf_29 : decode cX0_bestUnderstudyOf 29 = .ok (.getfield 49, 3) := by decide +kernel
theorem dX0_bestUnderstudyOf_32 : decode cX0_bestUnderstudyOf 32 = .ok (.iload 4, 2) := by decide +kernel
theorem dX0_bestUnderstudyOf_34 : decode cX0_bestUnderstudyOf 34 = .ok (.invokestatic 99, 3) := by decide +kernel
theorem dX0_bestUnderstudyOf_37 : decode cX0_bestUnderstudyOf 37 = .ok (.ifCond .ne 6, 3) := by decide +kernel
theorem dX0_bestUnderstudyOf_40 : decode cX0_bestUnderstudyOf 40 = .ok (.iload 4, 2) := by decide +kernel
theorem dX0_bestUnderstudyOf_42 : decode cX0_bestUnderstudyOf 42 = .ok (.ireturn, 1) := by decide +kernel
theorem dX0_bestUnderstudyOf_43 : decode cX0_bestUnderstudyOf 43 = .ok (.iinc 3 1, 3) := by decide +kernel
theorem dX0_bestUnderstudyOf_46 : decode cX0_bestUnderstudyOf 46 = .ok (.goto (-44), 3) := by decide +kernel
theorem dX0_bestUnderstudyOf_49 : decode cX0_bestUnderstudyOf 49 = .ok (.iconst (-1), 1) := by decide +kernel
theorem dX0_bestUnderstudyOf_50 : decode cX0_bestUnderstudyOf 50 = .ok (.ireturn, 1) := by decide +kernel
theorem dX0_isFree_0 : decode cX0_isFree 0 = .ok (.iload_n 1, 1) := by decide +kernel
theorem dX0_isFree_1 : decode cX0_isFree 1 = .ok (.ifCond .lt 18, 3) := by decide +kernel
theorem dX0_isFree_4 : decode cX0_isFree 4 = .ok (.aload_n 0, 1) := by decide +kernel
theorem dX0_isFree_5 : decode cX0_isFree 5 = .ok (.getfield 43, 3) := by decide +kernel
theorem dX0_isFree_8 : decode cX0_isFree 8 = .ok (.iload_n 1, 1) := by decide +kernel
theorem dX0_isFree_9 : decode cX0_isFree 9 = .ok (.iushr, 1) := by decide +kernel
theorem dX0_isFree_10 : decode cX0_isFree 10 = .ok (.iconst 1, 1) := by decide +kernel
theorem dX0_isFree_11 : decode cX0_isFree 11 = .ok (.iand, 1) := by decide +kernel
theorem dX0_isFree_12 : decode cX0_isFree 12 = .ok (.ifCond .eq 7, 3) := by decide +kernel
theorem dX0_isFree_15 : decode cX0_isFree 15 = .ok (.iconst 1, 1) := by decide +kernel
theorem dX0_isFree_16 : decode cX0_isFree 16 = .ok (.goto 4, 3) := by decide +kernel
theorem dX0_isFree_19 : decode cX0_isFree 19 = .ok (.iconst 0, 1) := by decide +kernel
theorem dX0_isFree_20 : decode cX0_isFree 20 = .ok (.ireturn, 1) := by decide +kernel
theorem dX0_take_0 : decode cX0_take 0 = .ok (.iload_n 1, 1) := by decide +kernel
theorem dX0_take_1 : decode cX0_take 1 = .ok (.ifCond .lt 9, 3) := by decide +kernel
theorem dX0_take_4 : decode cX0_take 4 = .ok (.iload_n 1, 1) := by decide +kernel
theorem dX0_take_5 : decode cX0_take 5 = .ok (.bipush 6, 2) := by decide +kernel
theorem dX0_take_7 : decode cX0_take 7 = .ok (.if_icmp .lt 4, 3) := by decide +kernel
theorem dX0_take_10 : decode cX0_take 10 = .ok (.return_, 1) := by decide +kernel
theorem dX0_take_11 : decode cX0_take 11 = .ok (.aload_n 0, 1) := by decide +kernel
theorem dX0_take_12 : decode cX0_take 12 = .ok (.getfield 9, 3) := by decide +kernel
theorem dX0_take_15 : decode cX0_take 15 = .ok (.iload_n 1, 1) := by decide +kernel
theorem dX0_take_16 : decode cX0_take 16 = .ok (.iload_n 2, 1) := by decide +kernel
theorem dX0_take_17 : decode cX0_take 17 = .ok (.iastore, 1) := by decide +kernel
theorem dX0_take_18 : decode cX0_take 18 = .ok (.aload_n 0, 1) := by decide +kernel
theorem dX0_take_19 : decode cX0_take 19 = .ok (.getfield 15, 3) := by decide +kernel
theorem dX0_take_22 : decode cX0_take 22 = .ok (.iload_n 1, 1) := by decide +kernel
theorem dX0_take_23 : decode cX0_take 23 = .ok (.iload_n 3, 1) := by decide +kernel
theorem dX0_take_24 : decode cX0_take 24 = .ok (.iastore, 1) := by decide +kernel
theorem dX0_take_25 : decode cX0_take 25 = .ok (.aload_n 0, 1) := by decide +kernel
theorem dX0_take_26 : decode cX0_take 26 = .ok (.getfield 18, 3) := by decide +kernel
theorem dX0_take_29 : decode cX0_take 29 = .ok (.iload_n 1, 1) := by decide +kernel
theorem dX0_take_30 : decode cX0_take 30 = .ok (.iload 4, 2) := by decide +kernel
theorem dX0_take_32 : decode cX0_take 32 = .ok (.iastore, 1) := by decide +kernel
theorem dX0_take_33 : decode cX0_take 33 = .ok (.iload_n 2, 1) := by decide +kernel
theorem dX0_take_34 : decode cX0_take 34 = .ok (.iconst (-1), 1) := by decide +kernel
theorem dX0_take_35 : decode cX0_take 35 = .ok (.if_icmp .eq 29, 3) := by decide +kernel
theorem dX0_take_38 : decode cX0_take 38 = .ok (.aload_n 0, 1) := by decide +kernel
theorem dX0_take_39 : decode cX0_take 39 = .ok (.dup, 1) := by decide +kernel
theorem dX0_take_40 : decode cX0_take 40 = .ok (.getfield 43, 3) := by decide +kernel
theorem dX0_take_43 : decode cX0_take 43 = .ok (.iconst 1, 1) := by decide +kernel
theorem dX0_take_44 : decode cX0_take 44 = .ok (.iload_n 2, 1) := by decide +kernel
theorem dX0_take_45 : decode cX0_take 45 = .ok (.ishl, 1) := by decide +kernel
theorem dX0_take_46 : decode cX0_take 46 = .ok (.iconst (-1), 1) := by decide +kernel
theorem dX0_take_47 : decode cX0_take 47 = .ok (.ixor, 1) := by decide +kernel
theorem dX0_take_48 : decode cX0_take 48 = .ok (.iand, 1) := by decide +kernel
theorem dX0_take_49 : decode cX0_take 49 = .ok (.putfield 43, 3) := by decide +kernel
theorem dX0_take_52 : decode cX0_take 52 = .ok (.aload_n 0, 1) := by decide +kernel
theorem dX0_take_53 : decode cX0_take 53 = .ok (.dup, 1) := by decide +kernel
theorem dX0_take_54 : decode cX0_take 54 = .ok (.getfield 62, 3) := by decide +kernel
theorem dX0_take_57 : decode cX0_take 57 = .ok (.iconst 1, 1) := by decide +kernel
theorem dX0_take_58 : decode cX0_take 58 = .ok (.iload_n 2, 1) := by decide +kernel
theorem dX0_take_59 : decode cX0_take 59 = .ok (.ishl, 1) := by decide +kernel
theorem dX0_take_60 : decode cX0_take 60 = .ok (.ior, 1) := by decide +kernel
theorem dX0_take_61 : decode cX0_take 61 = .ok (.putfield 62, 3) := by decide +kernel
theorem dX0_take_64 : decode cX0_take 64 = .ok (.return_, 1) := by decide +kernel
theorem dX0_isDark_0 : decode cX0_isDark 0 = .ok (.aload_n 0, 1) := by decide +kernel
theorem dX0_isDark_1 : decode cX0_isDark 1 = .ok (.getfield 58, 3) := by decide +kernel
theorem dX0_isDark_4 : decode cX0_isDark 4 = .ok (.ireturn, 1) := by decide +kernel
theorem dX0_takings_0 : decode cX0_takings 0 = .ok (.aload_n 0, 1) := by decide +kernel
theorem dX0_takings_1 : decode cX0_takings 1 = .ok (.getfield 75, 3) := by decide +kernel
theorem dX0_takings_4 : decode cX0_takings 4 = .ok (.ireturn, 1) := by decide +kernel
theorem dX0_players_0 : decode cX0_players 0 = .ok (.aload_n 0, 1) := by decide +kernel
theorem dX0_players_1 : decode cX0_players 1 = .ok (.getfield 62, 3) := by decide +kernel
theorem dX0_players_4 : decode cX0_players 4 = .ok (.ireturn, 1) := by decide +kernel
theorem dX0_takenFor_0 : decode cX0_takenFor 0 = .ok (.iload_n 1, 1) := by decide +kernel
theorem dX0_takenFor_1 : decode cX0_takenFor 1 = .ok (.ifCond .lt 26, 3) := by decide +kernel
theorem dX0_takenFor_4 : decode cX0_takenFor 4 = .ok (.iload_n 1, 1) := by decide +kernel
theorem dX0_takenFor_5 : decode cX0_takenFor 5 = .ok (.aload_n 0, 1) := by decide +kernel
theorem dX0_takenFor_6 : decode cX0_takenFor 6 = .ok (.getfield 33, 3) := by decide +kernel
theorem dX0_takenFor_9 : decode cX0_takenFor 9 = .ok (.if_icmp .ge 18, 3) := by decide +kernel
theorem dX0_takenFor_12 : decode cX0_takenFor 12 = .ok (.iload_n 1, 1) := by decide +kernel
theorem dX0_takenFor_13 : decode cX0_takenFor 13 = .ok (.bipush 6, 2) := by decide +kernel
theorem dX0_takenFor_15 : decode cX0_takenFor 15 = .ok (.if_icmp .ge 12, 3) := by decide +kernel
theorem dX0_takenFor_18 : decode cX0_takenFor 18 = .ok (.aload_n 0, 1) := by decide +kernel
theorem dX0_takenFor_19 : decode cX0_takenFor 19 = .ok (.getfield 9, 3) := by decide +kernel
theorem dX0_takenFor_22 : decode cX0_takenFor 22 = .ok (.iload_n 1, 1) := by decide +kernel
theorem dX0_takenFor_23 : decode cX0_takenFor 23 = .ok (.iaload, 1) := by decide +kernel
theorem dX0_takenFor_24 : decode cX0_takenFor 24 = .ok (.goto 4, 3) := by decide +kernel
theorem dX0_takenFor_27 : decode cX0_takenFor 27 = .ok (.iconst (-1), 1) := by decide +kernel
theorem dX0_takenFor_28 : decode cX0_takenFor 28 = .ok (.ireturn, 1) := by decide +kernel
theorem dX0_player_0 : decode cX0_player 0 = .ok (.aload_n 0, 1) := by decide +kernel
theorem dX0_player_1 : decode cX0_player 1 = .ok (.getfield 58, 3) := by decide +kernel
theorem dX0_player_4 : decode cX0_player 4 = .ok (.ifCond .eq 7, 3) := by decide +kernel
theorem dX0_player_7 : decode cX0_player 7 = .ok (.iconst (-1), 1) := by decide +kernel
theorem dX0_player_8 : decode cX0_player 8 = .ok (.goto 8, 3) := by decide +kernel
theorem dX0_player_11 : decode cX0_player 11 = .ok (.aload_n 0, 1) := by decide +kernel
theorem dX0_player_12 : decode cX0_player 12 = .ok (.iload_n 1, 1) := by decide +kernel
theorem dX0_player_13 : decode cX0_player 13 = .ok (.invokevirtual 115, 3) := by decide +kernel
theorem dX0_player_16 : decode cX0_player 16 = .ok (.ireturn, 1) := by decide +kernel
theorem dX0_reason_0 : decode cX0_reason 0 = .ok (.iload_n 1, 1) := by decide +kernel
theorem dX0_reason_1 : decode cX0_reason 1 = .ok (.ifCond .lt 26, 3) := by decide +kernel
theorem dX0_reason_4 : decode cX0_reason 4 = .ok (.iload_n 1, 1) := by decide +kernel
theorem dX0_reason_5 : decode cX0_reason 5 = .ok (.aload_n 0, 1) := by decide +kernel
theorem dX0_reason_6 : decode cX0_reason 6 = .ok (.getfield 33, 3) := by decide +kernel
theorem dX0_reason_9 : decode cX0_reason 9 = .ok (.if_icmp .ge 18, 3) := by decide +kernel
theorem dX0_reason_12 : decode cX0_reason 12 = .ok (.iload_n 1, 1) := by decide +kernel
theorem dX0_reason_13 : decode cX0_reason 13 = .ok (.bipush 6, 2) := by decide +kernel
theorem dX0_reason_15 : decode cX0_reason 15 = .ok (.if_icmp .ge 12, 3) := by decide +kernel
theorem dX0_reason_18 : decode cX0_reason 18 = .ok (.aload_n 0, 1) := by decide +kernel
theorem dX0_reason_19 : decode cX0_reason 19 = .ok (.getfield 15, 3) := by decide +kernel
theorem dX0_reason_22 : decode cX0_reason 22 = .ok (.iload_n 1, 1) := by decide +kernel
theorem dX0_reason_23 : decode cX0_reason 23 = .ok (.iaload, 1) := by decide +kernel
theorem dX0_reason_24 : decode cX0_reason 24 = .ok (.goto 4, 3) := by decide +kernel
theorem dX0_reason_27 : decode cX0_reason 27 = .ok (.iconst 0, 1) := by decide +kernel
theorem dX0_reason_28 : decode cX0_reason 28 = .ok (.ireturn, 1) := by decide +kernel
theorem dX0_slipOf_0 : decode cX0_slipOf 0 = .ok (.iload_n 1, 1) := by decide +kernel
theorem dX0_slipOf_1 : decode cX0_slipOf 1 = .ok (.ifCond .lt 26, 3) := by decide +kernel
theorem dX0_slipOf_4 : decode cX0_slipOf 4 = .ok (.iload_n 1, 1) := by decide +kernel
theorem dX0_slipOf_5 : decode cX0_slipOf 5 = .ok (.aload_n 0, 1) := by decide +kernel
theorem dX0_slipOf_6 : decode cX0_slipOf 6 = .ok (.getfield 33, 3) := by decide +kernel
theorem dX0_slipOf_9 : decode cX0_slipOf 9 = .ok (.if_icmp .ge 18, 3) := by decide +kernel
theorem dX0_slipOf_12 : decode cX0_slipOf 12 = .ok (.iload_n 1, 1) := by decide +kernel
theorem dX0_slipOf_13 : decode cX0_slipOf 13 = .ok (.bipush 6, 2) := by decide +kernel
theorem dX0_slipOf_15 : decode cX0_slipOf 15 = .ok (.if_icmp .ge 12, 3) := by decide +kernel
theorem dX0_slipOf_18 : decode cX0_slipOf 18 = .ok (.aload_n 0, 1) := by decide +kernel
theorem dX0_slipOf_19 : decode cX0_slipOf 19 = .ok (.getfield 18, 3) := by decide +kernel
theorem dX0_slipOf_22 : decode cX0_slipOf 22 = .ok (.iload_n 1, 1) := by decide +kernel
theorem dX0_slipOf_23 : decode cX0_slipOf 23 = .ok (.iaload, 1) := by decide +kernel
theorem dX0_slipOf_24 : decode cX0_slipOf 24 = .ok (.goto 4, 3) := by decide +kernel
theorem dX0_slipOf_27 : decode cX0_slipOf 27 = .ok (.iconst (-1), 1) := by decide +kernel
theorem dX0_slipOf_28 : decode cX0_slipOf 28 = .ok (.ireturn, 1) := by decide +kernel
theorem dX0_slipsPlayed_0 : decode cX0_slipsPlayed 0 = .ok (.iconst 0, 1) := by decide +kernel
theorem dX0_slipsPlayed_1 : decode cX0_slipsPlayed 1 = .ok (.istore_n 1, 1) := by decide +kernel
theorem dX0_slipsPlayed_2 : decode cX0_slipsPlayed 2 = .ok (.iconst 0, 1) := by decide +kernel
theorem dX0_slipsPlayed_3 : decode cX0_slipsPlayed 3 = .ok (.istore_n 2, 1) := by decide +kernel
theorem dX0_slipsPlayed_4 : decode cX0_slipsPlayed 4 = .ok (.iload_n 2, 1) := by decide +kernel
theorem dX0_slipsPlayed_5 : decode cX0_slipsPlayed 5 = .ok (.aload_n 0, 1) := by decide +kernel
theorem dX0_slipsPlayed_6 : decode cX0_slipsPlayed 6 = .ok (.getfield 33, 3) := by decide +kernel
theorem dX0_slipsPlayed_9 : decode cX0_slipsPlayed 9 = .ok (.if_icmp .ge 28, 3) := by decide +kernel
theorem dX0_slipsPlayed_12 : decode cX0_slipsPlayed 12 = .ok (.aload_n 0, 1) := by decide +kernel
theorem dX0_slipsPlayed_13 : decode cX0_slipsPlayed 13 = .ok (.getfield 58, 3) := by decide +kernel
theorem dX0_slipsPlayed_16 : decode cX0_slipsPlayed 16 = .ok (.ifCond .ne 15, 3) := by decide +kernel
theorem dX0_slipsPlayed_19 : decode cX0_slipsPlayed 19 = .ok (.aload_n 0, 1) := by decide +kernel
theorem dX0_slipsPlayed_20 : decode cX0_slipsPlayed 20 = .ok (.iload_n 2, 1) := by decide +kernel
theorem dX0_slipsPlayed_21 : decode cX0_slipsPlayed 21 = .ok (.invokevirtual 118, 3) := by decide +kernel
theorem dX0_slipsPlayed_24 : decode cX0_slipsPlayed 24 = .ok (.iconst (-1), 1) := by decide +kernel
theorem dX0_slipsPlayed_25 : decode cX0_slipsPlayed 25 = .ok (.if_icmp .eq 6, 3) := by decide +kernel
theorem dX0_slipsPlayed_28 : decode cX0_slipsPlayed 28 = .ok (.iinc 1 1, 3) := by decide +kernel
theorem dX0_slipsPlayed_31 : decode cX0_slipsPlayed 31 = .ok (.iinc 2 1, 3) := by decide +kernel
theorem dX0_slipsPlayed_34 : decode cX0_slipsPlayed 34 = .ok (.goto (-30), 3) := by decide +kernel
theorem dX0_slipsPlayed_37 : decode cX0_slipsPlayed 37 = .ok (.iload_n 1, 1) := by decide +kernel
theorem dX0_slipsPlayed_38 : decode cX0_slipsPlayed 38 = .ok (.ireturn, 1) := by decide +kernel
theorem dX0_billAsNumber_0 : decode cX0_billAsNumber 0 = .ok (.iconst 0, 1) := by decide +kernel
theorem dX0_billAsNumber_1 : decode cX0_billAsNumber 1 = .ok (.istore_n 1, 1) := by decide +kernel
theorem dX0_billAsNumber_2 : decode cX0_billAsNumber 2 = .ok (.iconst 0, 1) := by decide +kernel
theorem dX0_billAsNumber_3 : decode cX0_billAsNumber 3 = .ok (.istore_n 2, 1) := by decide +kernel
theorem dX0_billAsNumber_4 : decode cX0_billAsNumber 4 = .ok (.iload_n 2, 1) := by decide +kernel
theorem dX0_billAsNumber_5 : decode cX0_billAsNumber 5 = .ok (.aload_n 0, 1) := by decide +kernel
theorem dX0_billAsNumber_6 : decode cX0_billAsNumber 6 = .ok (.getfield 33, 3) := by decide +kernel
theorem dX0_billAsNumber_9 : decode cX0_billAsNumber 9 = .ok (.if_icmp .ge 20, 3) := by decide +kernel
theorem dX0_billAsNumber_12 : decode cX0_billAsNumber 12 = .ok (.iload_n 1, 1) := by decide +kernel
theorem dX0_billAsNumber_13 : decode cX0_billAsNumber 13 = .ok (.bipush 10, 2) := by decide +kernel
theorem dX0_billAsNumber_15 : decode cX0_billAsNumber 15 = .ok (.imul, 1) := by decide +kernel
theorem dX0_billAsNumber_16 : decode cX0_billAsNumber 16 = .ok (.aload_n 0, 1) := by decide +kernel
theorem dX0_billAsNumber_17 : decode cX0_billAsNumber 17 = .ok (.iload_n 2, 1) := by decide +kernel
theorem dX0_billAsNumber_18 : decode cX0_billAsNumber 18 = .ok (.invokevirtual 121, 3) := by decide +kernel
theorem dX0_billAsNumber_21 : decode cX0_billAsNumber 21 = .ok (.iadd, 1) := by decide +kernel
theorem dX0_billAsNumber_22 : decode cX0_billAsNumber 22 = .ok (.istore_n 1, 1) := by decide +kernel
theorem dX0_billAsNumber_23 : decode cX0_billAsNumber 23 = .ok (.iinc 2 1, 3) := by decide +kernel
theorem dX0_billAsNumber_26 : decode cX0_billAsNumber 26 = .ok (.goto (-22), 3) := by decide +kernel
theorem dX0_billAsNumber_29 : decode cX0_billAsNumber 29 = .ok (.iload_n 1, 1) := by decide +kernel
theorem dX0_billAsNumber_30 : decode cX0_billAsNumber 30 = .ok (.ireturn, 1) := by decide +kernel
theorem dX1_init_0 : decode cX1_init 0 = .ok (.aload_n 0, 1) := by decide +kernel
theorem dX1_init_1 : decode cX1_init 1 = .ok (.invokespecial 3, 3) := by decide +kernel
theorem dX1_init_4 : decode cX1_init 4 = .ok (.aload_n 0, 1) := by decide +kernel
theorem dX1_init_5 : decode cX1_init 5 = .ok (.sipush 3710, 3) := by decide +kernel
theorem dX1_init_8 : decode cX1_init 8 = .ok (.newarray .int, 2) := by decide +kernel
theorem dX1_init_10 : decode cX1_init 10 = .ok (.putfield 11, 3) := by decide +kernel
theorem dX1_init_13 : decode cX1_init 13 = .ok (.return_, 1) := by decide +kernel
theorem dX1_size_0 : decode cX1_size 0 = .ok (.aload_n 0, 1) := by decide +kernel
theorem dX1_size_1 : decode cX1_size 1 = .ok (.getfield 17, 3) := by decide +kernel
theorem dX1_size_4 : decode cX1_size 4 = .ok (.ireturn, 1) := by decide +kernel
theorem dX1_forget_0 : decode cX1_forget 0 = .ok (.aload_n 0, 1) := by decide +kernel
theorem dX1_forget_1 : decode cX1_forget 1 = .ok (.iconst 0, 1) := by decide +kernel
theorem dX1_forget_2 : decode cX1_forget 2 = .ok (.putfield 21, 3) := by decide +kernel
theorem dX1_forget_5 : decode cX1_forget 5 = .ok (.aload_n 0, 1) := by decide +kernel
theorem dX1_forget_6 : decode cX1_forget 6 = .ok (.iconst 0, 1) := by decide +kernel
theorem dX1_forget_7 : decode cX1_forget 7 = .ok (.putfield 17, 3) := by decide +kernel
theorem dX1_forget_10 : decode cX1_forget 10 = .ok (.return_, 1) := by decide +kernel
theorem dX1_remember_0 : decode cX1_remember 0 = .ok (.aload_n 1, 1) := by decide +kernel
theorem dX1_remember_1 : decode cX1_remember 1 = .ok (.ifnonnull 4, 3) := by decide +kernel
theorem dX1_remember_4 : decode cX1_remember 4 = .ok (.return_, 1) := by decide +kernel
theorem dX1_remember_5 : decode cX1_remember 5 = .ok (.aload_n 1, 1) := by decide +kernel
theorem dX1_remember_6 : decode cX1_remember 6 = .ok (.aload_n 0, 1) := by decide +kernel
theorem dX1_remember_7 : decode cX1_remember 7 = .ok (.getfield 11, 3) := by decide +kernel
theorem dX1_remember_10 : decode cX1_remember 10 = .ok (.aload_n 0, 1) := by decide +kernel
theorem dX1_remember_11 : decode cX1_remember 11 = .ok (.getfield 21, 3) := by decide +kernel
theorem dX1_remember_14 : decode cX1_remember 14 = .ok (.aload_n 0, 1) := by decide +kernel
theorem dX1_remember_15 : decode cX1_remember 15 = .ok (.getfield 17, 3) := by decide +kernel
theorem dX1_remember_18 : decode cX1_remember 18 = .ok (.iadd, 1) := by decide +kernel
theorem dX1_remember_19 : decode cX1_remember 19 = .ok (.bipush 14, 2) := by decide +kernel
theorem dX1_remember_21 : decode cX1_remember 21 = .ok (.irem, 1) := by decide +kernel
theorem dX1_remember_22 : decode cX1_remember 22 = .ok (.invokevirtual 24, 3) := by decide +kernel
theorem dX1_remember_25 : decode cX1_remember 25 = .ok (.aload_n 0, 1) := by decide +kernel
theorem dX1_remember_26 : decode cX1_remember 26 = .ok (.getfield 17, 3) := by decide +kernel
theorem dX1_remember_29 : decode cX1_remember 29 = .ok (.bipush 14, 2) := by decide +kernel
theorem dX1_remember_31 : decode cX1_remember 31 = .ok (.if_icmp .ge 16, 3) := by decide +kernel
theorem dX1_remember_34 : decode cX1_remember 34 = .ok (.aload_n 0, 1) := by decide +kernel
theorem dX1_remember_35 : decode cX1_remember 35 = .ok (.dup, 1) := by decide +kernel
theorem dX1_remember_36 : decode cX1_remember 36 = .ok (.getfield 17, 3) := by decide +kernel
theorem dX1_remember_39 : decode cX1_remember 39 = .ok (.iconst 1, 1) := by decide +kernel
theorem dX1_remember_40 : decode cX1_remember 40 = .ok (.iadd, 1) := by decide +kernel
theorem dX1_remember_41 : decode cX1_remember 41 = .ok (.putfield 17, 3) := by decide +kernel
theorem dX1_remember_44 : decode cX1_remember 44 = .ok (.goto 16, 3) := by decide +kernel
theorem dX1_remember_47 : decode cX1_remember 47 = .ok (.aload_n 0, 1) := by decide +kernel
theorem dX1_remember_48 : decode cX1_remember 48 = .ok (.aload_n 0, 1) := by decide +kernel
theorem dX1_remember_49 : decode cX1_remember 49 = .ok (.getfield 21, 3) := by decide +kernel
theorem dX1_remember_52 : decode cX1_remember 52 = .ok (.iconst 1, 1) := by decide +kernel
theorem dX1_remember_53 : decode cX1_remember 53 = .ok (.iadd, 1) := by decide +kernel
theorem dX1_remember_54 : decode cX1_remember 54 = .ok (.bipush 14, 2) := by decide +kernel
theorem dX1_remember_56 : decode cX1_remember 56 = .ok (.irem, 1) := by decide +kernel
theorem dX1_remember_57 : decode cX1_remember 57 = .ok (.putfield 21, 3) := by decide +kernel
theorem dX1_remember_60 : decode cX1_remember 60 = .ok (.return_, 1) := by decide +kernel
theorem dX1_takeBack_0 : decode cX1_takeBack 0 = .ok (.aload_n 1, 1) := by decide +kernel
theorem dX1_takeBack_1 : decode cX1_takeBack 1 = .ok (.ifnull 10, 3) := by decide +kernel
theorem dX1_takeBack_4 : decode cX1_takeBack 4 = .ok (.aload_n 0, 1) := by decide +kernel
theorem dX1_takeBack_5 : decode cX1_takeBack 5 = .ok (.getfield 17, 3) := by decide +kernel
theorem dX1_takeBack_8 : decode cX1_takeBack 8 = .ok (.ifCond .ne 4, 3) := by decide +kernel
theorem dX1_takeBack_11 : decode cX1_takeBack 11 = .ok (.return_, 1) := by decide +kernel
theorem dX1_takeBack_12 : decode cX1_takeBack 12 = .ok (.aload_n 0, 1) := by decide +kernel
theorem dX1_takeBack_13 : decode cX1_takeBack 13 = .ok (.dup, 1) := by decide +kernel
theorem dX1_takeBack_14 : decode cX1_takeBack 14 = .ok (.getfield 17, 3) := by decide +kernel
theorem dX1_takeBack_17 : decode cX1_takeBack 17 = .ok (.iconst 1, 1) := by decide +kernel
theorem dX1_takeBack_18 : decode cX1_takeBack 18 = .ok (.isub, 1) := by decide +kernel
theorem dX1_takeBack_19 : decode cX1_takeBack 19 = .ok (.putfield 17, 3) := by decide +kernel
theorem dX1_takeBack_22 : decode cX1_takeBack 22 = .ok (.aload_n 1, 1) := by decide +kernel
theorem dX1_takeBack_23 : decode cX1_takeBack 23 = .ok (.aload_n 0, 1) := by decide +kernel
theorem dX1_takeBack_24 : decode cX1_takeBack 24 = .ok (.getfield 11, 3) := by decide +kernel
theorem dX1_takeBack_27 : decode cX1_takeBack 27 = .ok (.aload_n 0, 1) := by decide +kernel
theorem dX1_takeBack_28 : decode cX1_takeBack 28 = .ok (.getfield 21, 3) := by decide +kernel
theorem dX1_takeBack_31 : decode cX1_takeBack 31 = .ok (.aload_n 0, 1) := by decide +kernel
theorem dX1_takeBack_32 : decode cX1_takeBack 32 = .ok (.getfield 17, 3) := by decide +kernel
theorem dX1_takeBack_35 : decode cX1_takeBack 35 = .ok (.iadd, 1) := by decide +kernel
theorem dX1_takeBack_36 : decode cX1_takeBack 36 = .ok (.bipush 14, 2) := by decide +kernel
theorem dX1_takeBack_38 : decode cX1_takeBack 38 = .ok (.irem, 1) := by decide +kernel
theorem dX1_takeBack_39 : decode cX1_takeBack 39 = .ok (.invokevirtual 28, 3) := by decide +kernel
theorem dX1_takeBack_42 : decode cX1_takeBack 42 = .ok (.return_, 1) := by decide +kernel
theorem dX2_init_0 : decode cX2_init 0 = .ok (.aload_n 0, 1) := by decide +kernel
theorem dX2_init_1 : decode cX2_init 1 = .ok (.invokespecial 3, 3) := by decide +kernel
theorem dX2_init_4 : decode cX2_init 4 = .ok (.aload_n 0, 1) := by decide +kernel
theorem dX2_init_5 : decode cX2_init 5 = .ok (.bipush 120, 2) := by decide +kernel
theorem dX2_init_7 : decode cX2_init 7 = .ok (.newarray .int, 2) := by decide +kernel
theorem dX2_init_9 : decode cX2_init 9 = .ok (.putfield 9, 3) := by decide +kernel
theorem dX2_init_12 : decode cX2_init 12 = .ok (.return_, 1) := by decide +kernel
theorem dX2_size_0 : decode cX2_size 0 = .ok (.aload_n 0, 1) := by decide +kernel
theorem dX2_size_1 : decode cX2_size 1 = .ok (.getfield 15, 3) := by decide +kernel
theorem dX2_size_4 : decode cX2_size 4 = .ok (.ireturn, 1) := by decide +kernel
theorem dX2_isFull_0 : decode cX2_isFull 0 = .ok (.aload_n 0, 1) := by decide +kernel
theorem dX2_isFull_1 : decode cX2_isFull 1 = .ok (.getfield 15, 3) := by decide +kernel
theorem dX2_isFull_4 : decode cX2_isFull 4 = .ok (.bipush 120, 2) := by decide +kernel
theorem dX2_isFull_6 : decode cX2_isFull 6 = .ok (.if_icmp .lt 7, 3) := by decide +kernel
theorem dX2_isFull_9 : decode cX2_isFull 9 = .ok (.iconst 1, 1) := by decide +kernel
theorem dX2_isFull_10 : decode cX2_isFull 10 = .ok (.goto 4, 3) := by decide +kernel
theorem dX2_isFull_13 : decode cX2_isFull 13 = .ok (.iconst 0, 1) := by decide +kernel
theorem dX2_isFull_14 : decode cX2_isFull 14 = .ok (.ireturn, 1) := by decide +kernel
theorem dX2_add_0 : decode cX2_add 0 = .ok (.aload_n 0, 1) := by decide +kernel
theorem dX2_add_1 : decode cX2_add 1 = .ok (.getfield 15, 3) := by decide +kernel
theorem dX2_add_4 : decode cX2_add 4 = .ok (.ifCond .lt 32, 3) := by decide +kernel
theorem dX2_add_7 : decode cX2_add 7 = .ok (.aload_n 0, 1) := by decide +kernel
theorem dX2_add_8 : decode cX2_add 8 = .ok (.getfield 15, 3) := by decide +kernel
theorem dX2_add_11 : decode cX2_add 11 = .ok (.bipush 120, 2) := by decide +kernel
theorem dX2_add_13 : decode cX2_add 13 = .ok (.if_icmp .ge 23, 3) := by decide +kernel
theorem dX2_add_16 : decode cX2_add 16 = .ok (.aload_n 0, 1) := by decide +kernel
theorem dX2_add_17 : decode cX2_add 17 = .ok (.getfield 9, 3) := by decide +kernel
theorem dX2_add_20 : decode cX2_add 20 = .ok (.aload_n 0, 1) := by decide +kernel
theorem dX2_add_21 : decode cX2_add 21 = .ok (.getfield 15, 3) := by decide +kernel
theorem dX2_add_24 : decode cX2_add 24 = .ok (.iload_n 1, 1) := by decide +kernel
theorem dX2_add_25 : decode cX2_add 25 = .ok (.iastore, 1) := by decide +kernel
theorem dX2_add_26 : decode cX2_add 26 = .ok (.aload_n 0, 1) := by decide +kernel
theorem dX2_add_27 : decode cX2_add 27 = .ok (.dup, 1) := by decide +kernel
theorem dX2_add_28 : decode cX2_add 28 = .ok (.getfield 15, 3) := by decide +kernel
theorem dX2_add_31 : decode cX2_add 31 = .ok (.iconst 1, 1) := by decide +kernel
theorem dX2_add_32 : decode cX2_add 32 = .ok (.iadd, 1) := by decide +kernel
theorem dX2_add_33 : decode cX2_add 33 = .ok (.putfield 15, 3) := by decide +kernel
theorem dX2_add_36 : decode cX2_add 36 = .ok (.return_, 1) := by decide +kernel
theorem dX2_signAt_0 : decode cX2_signAt 0 = .ok (.iload_n 1, 1) := by decide +kernel
theorem dX2_signAt_1 : decode cX2_signAt 1 = .ok (.ifCond .lt 26, 3) := by decide +kernel
theorem dX2_signAt_4 : decode cX2_signAt 4 = .ok (.iload_n 1, 1) := by decide +kernel
theorem dX2_signAt_5 : decode cX2_signAt 5 = .ok (.aload_n 0, 1) := by decide +kernel
theorem dX2_signAt_6 : decode cX2_signAt 6 = .ok (.getfield 15, 3) := by decide +kernel
theorem dX2_signAt_9 : decode cX2_signAt 9 = .ok (.if_icmp .ge 18, 3) := by decide +kernel
theorem dX2_signAt_12 : decode cX2_signAt 12 = .ok (.iload_n 1, 1) := by decide +kernel
theorem dX2_signAt_13 : decode cX2_signAt 13 = .ok (.bipush 120, 2) := by decide +kernel
theorem dX2_signAt_15 : decode cX2_signAt 15 = .ok (.if_icmp .ge 12, 3) := by decide +kernel
theorem dX2_signAt_18 : decode cX2_signAt 18 = .ok (.aload_n 0, 1) := by decide +kernel
theorem dX2_signAt_19 : decode cX2_signAt 19 = .ok (.getfield 9, 3) := by decide +kernel
theorem dX2_signAt_22 : decode cX2_signAt 22 = .ok (.iload_n 1, 1) := by decide +kernel
theorem dX2_signAt_23 : decode cX2_signAt 23 = .ok (.iaload, 1) := by decide +kernel
theorem dX2_signAt_24 : decode cX2_signAt 24 = .ok (.goto 4, 3) := by decide +kernel
theorem dX2_signAt_27 : decode cX2_signAt 27 = .ok (.iconst (-1), 1) := by decide +kernel
theorem dX2_signAt_28 : decode cX2_signAt 28 = .ok (.ireturn, 1) := by decide +kernel
theorem dX2_digit_0 : decode cX2_digit 0 = .ok (.aload_n 0, 1) := by decide +kernel
theorem dX2_digit_1 : decode cX2_digit 1 = .ok (.iload_n 1, 1) := by decide +kernel
theorem dX2_digit_2 : decode cX2_digit 2 = .ok (.invokevirtual 19, 3) := by decide +kernel
theorem dX2_digit_5 : decode cX2_digit 5 = .ok (.bipush 48, 2) := by decide +kernel
theorem dX2_digit_7 : decode cX2_digit 7 = .ok (.isub, 1) := by decide +kernel
theorem dX2_digit_8 : decode cX2_digit 8 = .ok (.ireturn, 1) := by decide +kernel
theorem dX2_pair_0 : decode cX2_pair 0 = .ok (.bipush 10, 2) := by decide +kernel
theorem dX2_pair_2 : decode cX2_pair 2 = .ok (.aload_n 0, 1) := by decide +kernel
theorem dX2_pair_3 : decode cX2_pair 3 = .ok (.iload_n 1, 1) := by decide +kernel
theorem dX2_pair_4 : decode cX2_pair 4 = .ok (.invokevirtual 23, 3) := by decide +kernel
theorem dX2_pair_7 : decode cX2_pair 7 = .ok (.imul, 1) := by decide +kernel
theorem dX2_pair_8 : decode cX2_pair 8 = .ok (.aload_n 0, 1) := by decide +kernel
theorem dX2_pair_9 : decode cX2_pair 9 = .ok (.iload_n 1, 1) := by decide +kernel
theorem dX2_pair_10 : decode cX2_pair 10 = .ok (.iconst 1, 1) := by decide +kernel
theorem dX2_pair_11 : decode cX2_pair 11 = .ok (.iadd, 1) := by decide +kernel
theorem dX2_pair_12 : decode cX2_pair 12 = .ok (.invokevirtual 23, 3) := by decide +kernel
theorem dX2_pair_15 : decode cX2_pair 15 = .ok (.iadd, 1) := by decide +kernel
theorem dX2_pair_16 : decode cX2_pair 16 = .ok (.ireturn, 1) := by decide +kernel
theorem dX2_firstFault_0 : decode cX2_firstFault 0 = .ok (.aload_n 0, 1) := by decide +kernel
theorem dX2_firstFault_1 : decode cX2_firstFault 1 = .ok (.iconst 0, 1) := by decide +kernel
theorem dX2_firstFault_2 : decode cX2_firstFault 2 = .ok (.invokevirtual 19, 3) := by decide +kernel
theorem dX2_firstFault_5 : decode cX2_firstFault 5 = .ok (.bipush 66, 2) := by decide +kernel
theorem dX2_firstFault_7 : decode cX2_firstFault 7 = .ok (.if_icmp .eq 5, 3) := by decide +kernel
theorem dX2_firstFault_10 : decode cX2_firstFault 10 = .ok (.iconst 0, 1) := by decide +kernel
theorem dX2_firstFault_11 : decode cX2_firstFault 11 = .ok (.ireturn, 1) := by decide +kernel
theorem dX2_firstFault_12 : decode cX2_firstFault 12 = .ok (.iconst 1, 1) := by decide +kernel
theorem dX2_firstFault_13 : decode cX2_firstFault 13 = .ok (.istore_n 1, 1) := by decide +kernel
theorem dX2_firstFault_14 : decode cX2_firstFault 14 = .ok (.iload_n 1, 1) := by decide +kernel
theorem dX2_firstFault_15 : decode cX2_firstFault 15 = .ok (.aload_n 0, 1) := by decide +kernel
theorem dX2_firstFault_16 : decode cX2_firstFault 16 = .ok (.getfield 15, 3) := by decide +kernel
theorem dX2_firstFault_19 : decode cX2_firstFault 19 = .ok (.if_icmp .ge 42, 3) := by decide +kernel
theorem dX2_firstFault_22 : decode cX2_firstFault 22 = .ok (.aload_n 0, 1) := by decide +kernel
theorem dX2_firstFault_23 : decode cX2_firstFault 23 = .ok (.iload_n 1, 1) := by decide +kernel
theorem dX2_firstFault_24 : decode cX2_firstFault 24 = .ok (.invokevirtual 19, 3) := by decide +kernel
theorem dX2_firstFault_27 : decode cX2_firstFault 27 = .ok (.invokestatic 26, 3) := by decide +kernel
theorem dX2_firstFault_30 : decode cX2_firstFault 30 = .ok (.ifCond .ne 5, 3) := by decide +kernel
theorem dX2_firstFault_33 : decode cX2_firstFault 33 = .ok (.iload_n 1, 1) := by decide +kernel
theorem dX2_firstFault_34 : decode cX2_firstFault 34 = .ok (.ireturn, 1) := by decide +kernel
theorem dX2_firstFault_35 : decode cX2_firstFault 35 = .ok (.aload_n 0, 1) := by decide +kernel
theorem dX2_firstFault_36 : decode cX2_firstFault 36 = .ok (.iload_n 1, 1) := by decide +kernel
theorem dX2_firstFault_37 : decode cX2_firstFault 37 = .ok (.invokevirtual 30, 3) := by decide +kernel
theorem dX2_firstFault_40 : decode cX2_firstFault 40 = .ok (.istore_n 2, 1) := by decide +kernel
theorem dX2_firstFault_41 : decode cX2_firstFault 41 = .ok (.iload_n 2, 1) := by decide +kernel
theorem dX2_firstFault_42 : decode cX2_firstFault 42 = .ok (.iconst (-1), 1) := by decide +kernel
theorem dX2_firstFault_43 : decode cX2_firstFault 43 = .ok (.if_icmp .eq 5, 3) := by decide +kernel
theorem dX2_firstFault_46 : decode cX2_firstFault 46 = .ok (.iload_n 2, 1) := by decide +kernel
theorem dX2_firstFault_47 : decode cX2_firstFault 47 = .ok (.ireturn, 1) := by decide +kernel
theorem dX2_firstFault_48 : decode cX2_firstFault 48 = .ok (.iload_n 1, 1) := by decide +kernel
theorem dX2_firstFault_49 : decode cX2_firstFault 49 = .ok (.iconst 1, 1) := by decide +kernel
theorem dX2_firstFault_50 : decode cX2_firstFault 50 = .ok (.aload_n 0, 1) := by decide +kernel
theorem dX2_firstFault_51 : decode cX2_firstFault 51 = .ok (.iload_n 1, 1) := by decide +kernel
theorem dX2_firstFault_52 : decode cX2_firstFault 52 = .ok (.invokevirtual 33, 3) := by decide +kernel
theorem dX2_firstFault_55 : decode cX2_firstFault 55 = .ok (.iadd, 1) := by decide +kernel
theorem dX2_firstFault_56 : decode cX2_firstFault 56 = .ok (.iadd, 1) := by decide +kernel
theorem dX2_firstFault_57 : decode cX2_firstFault 57 = .ok (.istore_n 1, 1) := by decide +kernel
theorem dX2_firstFault_58 : decode cX2_firstFault 58 = .ok (.goto (-44), 3) := by decide +kernel
theorem dX2_firstFault_61 : decode cX2_firstFault 61 = .ok (.iconst (-1), 1) := by decide +kernel
theorem dX2_firstFault_62 : decode cX2_firstFault 62 = .ok (.ireturn, 1) := by decide +kernel
theorem dX2_digitsBehind_0 : decode cX2_digitsBehind 0 = .ok (.aload_n 0, 1) := by decide +kernel
theorem dX2_digitsBehind_1 : decode cX2_digitsBehind 1 = .ok (.iload_n 1, 1) := by decide +kernel
theorem dX2_digitsBehind_2 : decode cX2_digitsBehind 2 = .ok (.invokevirtual 19, 3) := by decide +kernel
theorem dX2_digitsBehind_5 : decode cX2_digitsBehind 5 = .ok (.invokestatic 36, 3) := by decide +kernel
theorem dX2_digitsBehind_8 : decode cX2_digitsBehind 8 = .ok (.invokevirtual 40, 3) := by decide +kernel
theorem dX2_digitsBehind_11 : decode cX2_digitsBehind 11 = .ok (.ireturn, 1) := by decide +kernel
theorem dX2_isCommand_0 : decode cX2_isCommand 0 = .ok (.iload_n 0, 1) := by decide +kernel
theorem dX2_isCommand_1 : decode cX2_isCommand 1 = .ok (.bipush 112, 2) := by decide +kernel
theorem dX2_isCommand_3 : decode cX2_isCommand 3 = .ok (.if_icmp .eq 13, 3) := by decide +kernel
theorem dX2_isCommand_6 : decode cX2_isCommand 6 = .ok (.iload_n 0, 1) := by decide +kernel
theorem dX2_isCommand_7 : decode cX2_isCommand 7 = .ok (.invokestatic 36, 3) := by decide +kernel
theorem dX2_isCommand_10 : decode cX2_isCommand 10 = .ok (.invokevirtual 46, 3) := by decide +kernel
theorem dX2_isCommand_13 : decode cX2_isCommand 13 = .ok (.ifCond .ne 7, 3) := by decide +kernel
theorem dX2_isCommand_16 : decode cX2_isCommand 16 = .ok (.iconst 1, 1) := by decide +kernel
theorem dX2_isCommand_17 : decode cX2_isCommand 17 = .ok (.goto 4, 3) := by decide +kernel
theorem dX2_isCommand_20 : decode cX2_isCommand 20 = .ok (.iconst 0, 1) := by decide +kernel
theorem dX2_isCommand_21 : decode cX2_isCommand 21 = .ok (.ireturn, 1) := by decide +kernel
theorem dX2_highestDigits_0 : decode cX2_highestDigits 0 = .ok (.iload_n 0, 1) := by decide +kernel
theorem dX2_highestDigits_1 : decode cX2_highestDigits 1 = .ok (.lookupswitch 66 #[(97, 51), (99, 54), (105, 60), (115, 63), (117, 57)], 51) := by decide +kernel
theorem dX2_highestDigits_52 : decode cX2_highestDigits 52 = .ok (.ldc 50, 2) := by decide +kernel
theorem dX2_highestDigits_54 : decode cX2_highestDigits 54 = .ok (.areturn, 1) := by decide +kernel
theorem dX2_highestDigits_55 : decode cX2_highestDigits 55 = .ok (.ldc 52, 2) := by decide +kernel
theorem dX2_highestDigits_57 : decode cX2_highestDigits 57 = .ok (.areturn, 1) := by decide +kernel
theorem dX2_highestDigits_58 : decode cX2_highestDigits 58 = .ok (.ldc 54, 2) := by decide +kernel
theorem dX2_highestDigits_60 : decode cX2_highestDigits 60 = .ok (.areturn, 1) := by decide +kernel
theorem dX2_highestDigits_61 : decode cX2_highestDigits 61 = .ok (.ldc 56, 2) := by decide +kernel
theorem dX2_highestDigits_63 : decode cX2_highestDigits 63 = .ok (.areturn, 1) := by decide +kernel
theorem dX2_highestDigits_64 : decode cX2_highestDigits 64 = .ok (.ldc 58, 2) := by decide +kernel
theorem dX2_highestDigits_66 : decode cX2_highestDigits 66 = .ok (.areturn, 1) := by decide +kernel
theorem dX2_highestDigits_67 : decode cX2_highestDigits 67 = .ok (.ldc 60, 2) := by decide +kernel
theorem dX2_highestDigits_69 : decode cX2_highestDigits 69 = .ok (.areturn, 1) := by decide +kernel
theorem dX2_faultBehind_0 : decode cX2_faultBehind 0 = .ok (.aload_n 0, 1) := by decide +kernel
theorem dX2_faultBehind_1 : decode cX2_faultBehind 1 = .ok (.iload_n 1, 1) := by decide +kernel
theorem dX2_faultBehind_2 : decode cX2_faultBehind 2 = .ok (.invokevirtual 19, 3) := by decide +kernel
theorem dX2_faultBehind_5 : decode cX2_faultBehind 5 = .ok (.invokestatic 36, 3) := by decide +kernel
theorem dX2_faultBehind_8 : decode cX2_faultBehind 8 = .ok (.astore_n 2, 1) := by decide +kernel
theorem dX2_faultBehind_9 : decode cX2_faultBehind 9 = .ok (.iconst 0, 1) := by decide +kernel
theorem dX2_faultBehind_10 : decode cX2_faultBehind 10 = .ok (.istore_n 3, 1) := by decide +kernel
theorem dX2_faultBehind_11 : decode cX2_faultBehind 11 = .ok (.iload_n 3, 1) := by decide +kernel
theorem dX2_faultBehind_12 : decode cX2_faultBehind 12 = .ok (.aload_n 2, 1) := by decide +kernel
theorem dX2_faultBehind_13 : decode cX2_faultBehind 13 = .ok (.invokevirtual 40, 3) := by decide +kernel
theorem dX2_faultBehind_16 : decode cX2_faultBehind 16 = .ok (.if_icmp .ge 47, 3) := by decide +kernel
theorem dX2_faultBehind_19 : decode cX2_faultBehind 19 = .ok (.iload_n 1, 1) := by decide +kernel
theorem dX2_faultBehind_20 : decode cX2_faultBehind 20 = .ok (.iconst 1, 1) := by decide +kernel
theorem dX2_faultBehind_21 : decode cX2_faultBehind 21 = .ok (.iadd, 1) := by decide +kernel
theorem dX2_faultBehind_22 : decode cX2_faultBehind 22 = .ok (.iload_n 3, 1) := by decide +kernel
theorem dX2_faultBehind_23 : decode cX2_faultBehind 23 = .ok (.iadd, 1) := by decide +kernel
theorem dX2_faultBehind_24 : decode cX2_faultBehind 24 = .ok (.istore 4, 2) := by decide +kernel
theorem dX2_faultBehind_26 : decode cX2_faultBehind 26 = .ok (.iload 4, 2) := by decide +kernel
theorem dX2_faultBehind_28 : decode cX2_faultBehind 28 = .ok (.aload_n 0, 1) := by decide +kernel
theorem dX2_faultBehind_29 : decode cX2_faultBehind 29 = .ok (.getfield 15, 3) := by decide +kernel
theorem dX2_faultBehind_32 : decode cX2_faultBehind 32 = .ok (.if_icmp .lt 8, 3) := by decide +kernel
theorem dX2_faultBehind_35 : decode cX2_faultBehind 35 = .ok (.aload_n 0, 1) := by decide +kernel
theorem dX2_faultBehind_36 : decode cX2_faultBehind 36 = .ok (.getfield 15, 3) := by decide +kernel
theorem dX2_faultBehind_39 : decode cX2_faultBehind 39 = .ok (.ireturn, 1) := by decide +kernel
theorem dX2_faultBehind_40 : decode cX2_faultBehind 40 = .ok (.aload_n 0, 1) := by decide +kernel
theorem dX2_faultBehind_41 : decode cX2_faultBehind 41 = .ok (.iload 4, 2) := by decide +kernel
theorem dX2_faultBehind_43 : decode cX2_faultBehind 43 = .ok (.aload_n 2, 1) := by decide +kernel
theorem dX2_faultBehind_44 : decode cX2_faultBehind 44 = .ok (.iload_n 3, 1) := by decide +kernel
theorem dX2_faultBehind_45 : decode cX2_faultBehind 45 = .ok (.invokevirtual 62, 3) := by decide +kernel
theorem dX2_faultBehind_48 : decode cX2_faultBehind 48 = .ok (.invokevirtual 66, 3) := by decide +kernel
theorem dX2_faultBehind_51 : decode cX2_faultBehind 51 = .ok (.ifCond .ne 6, 3) := by decide +kernel
theorem dX2_faultBehind_54 : decode cX2_faultBehind 54 = .ok (.iload 4, 2) := by decide +kernel
theorem dX2_faultBehind_56 : decode cX2_faultBehind 56 = .ok (.ireturn, 1) := by decide +kernel
theorem dX2_faultBehind_57 : decode cX2_faultBehind 57 = .ok (.iinc 3 1, 3) := by decide +kernel
theorem dX2_faultBehind_60 : decode cX2_faultBehind 60 = .ok (.goto (-49), 3) := by decide +kernel
theorem dX2_faultBehind_63 : decode cX2_faultBehind 63 = .ok (.iconst (-1), 1) := by decide +kernel
theorem dX2_faultBehind_64 : decode cX2_faultBehind 64 = .ok (.ireturn, 1) := by decide +kernel
theorem dX2_isDigitUpTo_0 : decode cX2_isDigitUpTo 0 = .ok (.iload_n 2, 1) := by decide +kernel
theorem dX2_isDigitUpTo_1 : decode cX2_isDigitUpTo 1 = .ok (.istore_n 3, 1) := by decide +kernel
theorem dX2_isDigitUpTo_2 : decode cX2_isDigitUpTo 2 = .ok (.iload_n 2, 1) := by decide +kernel
theorem dX2_isDigitUpTo_3 : decode cX2_isDigitUpTo 3 = .ok (.bipush 104, 2) := by decide +kernel
theorem dX2_isDigitUpTo_5 : decode cX2_isDigitUpTo 5 = .ok (.if_icmp .ne 23, 3) := by decide +kernel
theorem dX2_isDigitUpTo_8 : decode cX2_isDigitUpTo 8 = .ok (.aload_n 0, 1) := by decide +kernel
theorem dX2_isDigitUpTo_9 : decode cX2_isDigitUpTo 9 = .ok (.iload_n 1, 1) := by decide +kernel
theorem dX2_isDigitUpTo_10 : decode cX2_isDigitUpTo 10 = .ok (.iconst 1, 1) := by decide +kernel
theorem dX2_isDigitUpTo_11 : decode cX2_isDigitUpTo 11 = .ok (.isub, 1) := by decide +kernel
theorem dX2_isDigitUpTo_12 : decode cX2_isDigitUpTo 12 = .ok (.invokevirtual 19, 3) := by decide +kernel
theorem dX2_isDigitUpTo_15 : decode cX2_isDigitUpTo 15 = .ok (.bipush 50, 2) := by decide +kernel
theorem dX2_isDigitUpTo_17 : decode cX2_isDigitUpTo 17 = .ok (.if_icmp .ne 8, 3) := by decide +kernel
theorem dX2_isDigitUpTo_20 : decode cX2_isDigitUpTo 20 = .ok (.bipush 51, 2) := by decide +kernel
theorem dX2_isDigitUpTo_22 : decode cX2_isDigitUpTo 22 = .ok (.goto 5, 3) := by decide +kernel
theorem dX2_isDigitUpTo_25 : decode cX2_isDigitUpTo 25 = .ok (.bipush 57, 2) := by decide +kernel
theorem dX2_isDigitUpTo_27 : decode cX2_isDigitUpTo 27 = .ok (.istore_n 3, 1) := by decide +kernel
theorem dX2_isDigitUpTo_28 : decode cX2_isDigitUpTo 28 = .ok (.aload_n 0, 1) := by decide +kernel
theorem dX2_isDigitUpTo_29 : decode cX2_isDigitUpTo 29 = .ok (.iload_n 1, 1) := by decide +kernel
theorem dX2_isDigitUpTo_30 : decode cX2_isDigitUpTo 30 = .ok (.invokevirtual 19, 3) := by decide +kernel
theorem dX2_isDigitUpTo_33 : decode cX2_isDigitUpTo 33 = .ok (.bipush 48, 2) := by decide +kernel
theorem dX2_isDigitUpTo_35 : decode cX2_isDigitUpTo 35 = .ok (.if_icmp .lt 16, 3) := by decide +kernel
theorem dX2_isDigitUpTo_38 : decode cX2_isDigitUpTo 38 = .ok (.aload_n 0, 1) := by decide +kernel
theorem dX2_isDigitUpTo_39 : decode cX2_isDigitUpTo 39 = .ok (.iload_n 1, 1) := by decide +kernel
theorem dX2_isDigitUpTo_40 : decode cX2_isDigitUpTo 40 = .ok (.invokevirtual 19, 3) := by decide +kernel
theorem dX2_isDigitUpTo_43 : decode cX2_isDigitUpTo 43 = .ok (.iload_n 3, 1) := by decide +kernel
theorem dX2_isDigitUpTo_44 : decode cX2_isDigitUpTo 44 = .ok (.if_icmp .gt 7, 3) := by decide +kernel
theorem dX2_isDigitUpTo_47 : decode cX2_isDigitUpTo 47 = .ok (.iconst 1, 1) := by decide +kernel
theorem dX2_isDigitUpTo_48 : decode cX2_isDigitUpTo 48 = .ok (.goto 4, 3) := by decide +kernel
theorem dX2_isDigitUpTo_51 : decode cX2_isDigitUpTo 51 = .ok (.iconst 0, 1) := by decide +kernel
theorem dX2_isDigitUpTo_52 : decode cX2_isDigitUpTo 52 = .ok (.ireturn, 1) := by decide +kernel
theorem dX3_init_0 : decode cX3_init 0 = .ok (.aload_n 0, 1) := by decide +kernel
theorem dX3_init_1 : decode cX3_init 1 = .ok (.invokespecial 3, 3) := by decide +kernel
theorem dX3_init_4 : decode cX3_init 4 = .ok (.aload_n 0, 1) := by decide +kernel
theorem dX3_init_5 : decode cX3_init 5 = .ok (.new 9, 3) := by decide +kernel
theorem dX3_init_8 : decode cX3_init 8 = .ok (.dup, 1) := by decide +kernel
theorem dX3_init_9 : decode cX3_init 9 = .ok (.invokespecial 11, 3) := by decide +kernel
theorem dX3_init_12 : decode cX3_init 12 = .ok (.putfield 12, 3) := by decide +kernel
theorem dX3_init_15 : decode cX3_init 15 = .ok (.return_, 1) := by decide +kernel
theorem dX3_tally_0 : decode cX3_tally 0 = .ok (.aload_n 0, 1) := by decide +kernel
theorem dX3_tally_1 : decode cX3_tally 1 = .ok (.iconst 0, 1) := by decide +kernel
theorem dX3_tally_2 : decode cX3_tally 2 = .ok (.putfield 18, 3) := by decide +kernel
theorem dX3_tally_5 : decode cX3_tally 5 = .ok (.aload_n 0, 1) := by decide +kernel
theorem dX3_tally_6 : decode cX3_tally 6 = .ok (.iconst 0, 1) := by decide +kernel
theorem dX3_tally_7 : decode cX3_tally 7 = .ok (.putfield 22, 3) := by decide +kernel
theorem dX3_tally_10 : decode cX3_tally 10 = .ok (.iconst 0, 1) := by decide +kernel
theorem dX3_tally_11 : decode cX3_tally 11 = .ok (.istore_n 2, 1) := by decide +kernel
theorem dX3_tally_12 : decode cX3_tally 12 = .ok (.iload_n 2, 1) := by decide +kernel
theorem dX3_tally_13 : decode cX3_tally 13 = .ok (.bipush 20, 2) := by decide +kernel
theorem dX3_tally_15 : decode cX3_tally 15 = .ok (.if_icmp .ge 58, 3) := by decide +kernel
theorem dX3_tally_18 : decode cX3_tally 18 = .ok (.aload_n 0, 1) := by decide +kernel
theorem dX3_tally_19 : decode cX3_tally 19 = .ok (.getfield 12, 3) := by decide +kernel
theorem dX3_tally_22 : decode cX3_tally 22 = .ok (.aload_n 1, 1) := by decide +kernel
theorem dX3_tally_23 : decode cX3_tally 23 = .ok (.iload_n 2, 1) := by decide +kernel
theorem dX3_tally_24 : decode cX3_tally 24 = .ok (.invokevirtual 25, 3) := by decide +kernel
theorem dX3_tally_27 : decode cX3_tally 27 = .ok (.aload_n 0, 1) := by decide +kernel
theorem dX3_tally_28 : decode cX3_tally 28 = .ok (.dup, 1) := by decide +kernel
theorem dX3_tally_29 : decode cX3_tally 29 = .ok (.getfield 18, 3) := by decide +kernel
theorem dX3_tally_32 : decode cX3_tally 32 = .ok (.aload_n 0, 1) := by decide +kernel
theorem dX3_tally_33 : decode cX3_tally 33 = .ok (.getfield 12, 3) := by decide +kernel
theorem dX3_tally_36 : decode cX3_tally 36 = .ok (.invokevirtual 29, 3) := by decide +kernel
theorem dX3_tally_39 : decode cX3_tally 39 = .ok (.ifCond .eq 7, 3) := by decide +kernel
theorem dX3_tally_42 : decode cX3_tally 42 = .ok (.iconst 1, 1) := by decide +kernel
theorem dX3_tally_43 : decode cX3_tally 43 = .ok (.goto 4, 3) := by decide +kernel
theorem dX3_tally_46 : decode cX3_tally 46 = .ok (.iconst 0, 1) := by decide +kernel
theorem dX3_tally_47 : decode cX3_tally 47 = .ok (.iadd, 1) := by decide +kernel
theorem dX3_tally_48 : decode cX3_tally 48 = .ok (.putfield 18, 3) := by decide +kernel
theorem dX3_tally_51 : decode cX3_tally 51 = .ok (.aload_n 0, 1) := by decide +kernel
theorem dX3_tally_52 : decode cX3_tally 52 = .ok (.dup, 1) := by decide +kernel
theorem dX3_tally_53 : decode cX3_tally 53 = .ok (.getfield 22, 3) := by decide +kernel
theorem dX3_tally_56 : decode cX3_tally 56 = .ok (.aload_n 0, 1) := by decide +kernel
theorem dX3_tally_57 : decode cX3_tally 57 = .ok (.getfield 12, 3) := by decide +kernel
theorem dX3_tally_60 : decode cX3_tally 60 = .ok (.invokevirtual 33, 3) := by decide +kernel
theorem dX3_tally_63 : decode cX3_tally 63 = .ok (.iadd, 1) := by decide +kernel
theorem dX3_tally_64 : decode cX3_tally 64 = .ok (.putfield 22, 3) := by decide +kernel
theorem dX3_tally_67 : decode cX3_tally 67 = .ok (.iinc 2 1, 3) := by decide +kernel
theorem dX3_tally_70 : decode cX3_tally 70 = .ok (.goto (-58), 3) := by decide +kernel
theorem dX3_tally_73 : decode cX3_tally 73 = .ok (.return_, 1) := by decide +kernel
theorem dX3_dark_0 : decode cX3_dark 0 = .ok (.aload_n 0, 1) := by decide +kernel
theorem dX3_dark_1 : decode cX3_dark 1 = .ok (.getfield 18, 3) := by decide +kernel
theorem dX3_dark_4 : decode cX3_dark 4 = .ok (.ireturn, 1) := by decide +kernel
theorem dX3_takings_0 : decode cX3_takings 0 = .ok (.aload_n 0, 1) := by decide +kernel
theorem dX3_takings_1 : decode cX3_takings 1 = .ok (.getfield 22, 3) := by decide +kernel
theorem dX3_takings_4 : decode cX3_takings 4 = .ok (.ireturn, 1) := by decide +kernel
theorem dX3_isBetter_0 : decode cX3_isBetter 0 = .ok (.aload_n 0, 1) := by decide +kernel
theorem dX3_isBetter_1 : decode cX3_isBetter 1 = .ok (.getfield 18, 3) := by decide +kernel
theorem dX3_isBetter_4 : decode cX3_isBetter 4 = .ok (.iload_n 1, 1) := by decide +kernel
theorem dX3_isBetter_5 : decode cX3_isBetter 5 = .ok (.if_icmp .lt 19, 3) := by decide +kernel
theorem dX3_isBetter_8 : decode cX3_isBetter 8 = .ok (.aload_n 0, 1) := by decide +kernel
theorem dX3_isBetter_9 : decode cX3_isBetter 9 = .ok (.getfield 18, 3) := by decide +kernel
theorem dX3_isBetter_12 : decode cX3_isBetter 12 = .ok (.iload_n 1, 1) := by decide +kernel
theorem dX3_isBetter_13 : decode cX3_isBetter 13 = .ok (.if_icmp .ne 15, 3) := by decide +kernel
theorem dX3_isBetter_16 : decode cX3_isBetter 16 = .ok (.aload_n 0, 1) := by decide +kernel
theorem dX3_isBetter_17 : decode cX3_isBetter 17 = .ok (.getfield 22, 3) := by decide +kernel
theorem dX3_isBetter_20 : decode cX3_isBetter 20 = .ok (.iload_n 2, 1) := by decide +kernel
theorem dX3_isBetter_21 : decode cX3_isBetter 21 = .ok (.if_icmp .le 7, 3) := by decide +kernel
theorem dX3_isBetter_24 : decode cX3_isBetter 24 = .ok (.iconst 1, 1) := by decide +kernel
theorem dX3_isBetter_25 : decode cX3_isBetter 25 = .ok (.goto 4, 3) := by decide +kernel
theorem dX3_isBetter_28 : decode cX3_isBetter 28 = .ok (.iconst 0, 1) := by decide +kernel
theorem dX3_isBetter_29 : decode cX3_isBetter 29 = .ok (.ireturn, 1) := by decide +kernel
theorem dJ6_bitCount_0f7a4_0 : decode cJ6_bitCount_0f7a4 0 = .ok (.iload_n 0, 1) := by decide +kernel
theorem dJ6_bitCount_0f7a4_1 : decode cJ6_bitCount_0f7a4 1 = .ok (.iload_n 0, 1) := by decide +kernel
theorem dJ6_bitCount_0f7a4_2 : decode cJ6_bitCount_0f7a4 2 = .ok (.iconst 1, 1) := by decide +kernel
theorem dJ6_bitCount_0f7a4_3 : decode cJ6_bitCount_0f7a4 3 = .ok (.iushr, 1) := by decide +kernel
theorem dJ6_bitCount_0f7a4_4 : decode cJ6_bitCount_0f7a4 4 = .ok (.ldc_w 265, 3) := by decide +kernel
theorem dJ6_bitCount_0f7a4_7 : decode cJ6_bitCount_0f7a4 7 = .ok (.iand, 1) := by decide +kernel
theorem dJ6_bitCount_0f7a4_8 : decode cJ6_bitCount_0f7a4 8 = .ok (.isub, 1) := by decide +kernel
theorem dJ6_bitCount_0f7a4_9 : decode cJ6_bitCount_0f7a4 9 = .ok (.istore_n 0, 1) := by decide +kernel
theorem dJ6_bitCount_0f7a4_10 : decode cJ6_bitCount_0f7a4 10 = .ok (.iload_n 0, 1) := by decide +kernel
theorem dJ6_bitCount_0f7a4_11 : decode cJ6_bitCount_0f7a4 11 = .ok (.ldc_w 266, 3) := by decide +kernel
theorem dJ6_bitCount_0f7a4_14 : decode cJ6_bitCount_0f7a4 14 = .ok (.iand, 1) := by decide +kernel
theorem dJ6_bitCount_0f7a4_15 : decode cJ6_bitCount_0f7a4 15 = .ok (.iload_n 0, 1) := by decide +kernel
theorem dJ6_bitCount_0f7a4_16 : decode cJ6_bitCount_0f7a4 16 = .ok (.iconst 2, 1) := by decide +kernel
theorem dJ6_bitCount_0f7a4_17 : decode cJ6_bitCount_0f7a4 17 = .ok (.iushr, 1) := by decide +kernel
theorem dJ6_bitCount_0f7a4_18 : decode cJ6_bitCount_0f7a4 18 = .ok (.ldc_w 266, 3) := by decide +kernel
theorem dJ6_bitCount_0f7a4_21 : decode cJ6_bitCount_0f7a4 21 = .ok (.iand, 1) := by decide +kernel
theorem dJ6_bitCount_0f7a4_22 : decode cJ6_bitCount_0f7a4 22 = .ok (.iadd, 1) := by decide +kernel
theorem dJ6_bitCount_0f7a4_23 : decode cJ6_bitCount_0f7a4 23 = .ok (.istore_n 0, 1) := by decide +kernel
theorem dJ6_bitCount_0f7a4_24 : decode cJ6_bitCount_0f7a4 24 = .ok (.iload_n 0, 1) := by decide +kernel
theorem dJ6_bitCount_0f7a4_25 : decode cJ6_bitCount_0f7a4 25 = .ok (.iload_n 0, 1) := by decide +kernel
theorem dJ6_bitCount_0f7a4_26 : decode cJ6_bitCount_0f7a4 26 = .ok (.iconst 4, 1) := by decide +kernel
theorem dJ6_bitCount_0f7a4_27 : decode cJ6_bitCount_0f7a4 27 = .ok (.iushr, 1) := by decide +kernel
theorem dJ6_bitCount_0f7a4_28 : decode cJ6_bitCount_0f7a4 28 = .ok (.iadd, 1) := by decide +kernel
theorem dJ6_bitCount_0f7a4_29 : decode cJ6_bitCount_0f7a4 29 = .ok (.ldc_w 267, 3) := by decide +kernel
theorem dJ6_bitCount_0f7a4_32 : decode cJ6_bitCount_0f7a4 32 = .ok (.iand, 1) := by decide +kernel
theorem dJ6_bitCount_0f7a4_33 : decode cJ6_bitCount_0f7a4 33 = .ok (.istore_n 0, 1) := by decide +kernel
theorem dJ6_bitCount_0f7a4_34 : decode cJ6_bitCount_0f7a4 34 = .ok (.iload_n 0, 1) := by decide +kernel
theorem dJ6_bitCount_0f7a4_35 : decode cJ6_bitCount_0f7a4 35 = .ok (.iload_n 0, 1) := by decide +kernel
theorem dJ6_bitCount_0f7a4_36 : decode cJ6_bitCount_0f7a4 36 = .ok (.bipush 8, 2) := by decide +kernel
theorem dJ6_bitCount_0f7a4_38 : decode cJ6_bitCount_0f7a4 38 = .ok (.iushr, 1) := by decide +kernel
theorem dJ6_bitCount_0f7a4_39 : decode cJ6_bitCount_0f7a4 39 = .ok (.iadd, 1) := by decide +kernel
theorem dJ6_bitCount_0f7a4_40 : decode cJ6_bitCount_0f7a4 40 = .ok (.istore_n 0, 1) := by decide +kernel
theorem dJ6_bitCount_0f7a4_41 : decode cJ6_bitCount_0f7a4 41 = .ok (.iload_n 0, 1) := by decide +kernel
theorem dJ6_bitCount_0f7a4_42 : decode cJ6_bitCount_0f7a4 42 = .ok (.iload_n 0, 1) := by decide +kernel
theorem dJ6_bitCount_0f7a4_43 : decode cJ6_bitCount_0f7a4 43 = .ok (.bipush 16, 2) := by decide +kernel
theorem dJ6_bitCount_0f7a4_45 : decode cJ6_bitCount_0f7a4 45 = .ok (.iushr, 1) := by decide +kernel
theorem dJ6_bitCount_0f7a4_46 : decode cJ6_bitCount_0f7a4 46 = .ok (.iadd, 1) := by decide +kernel
theorem dJ6_bitCount_0f7a4_47 : decode cJ6_bitCount_0f7a4 47 = .ok (.istore_n 0, 1) := by decide +kernel
theorem dJ6_bitCount_0f7a4_48 : decode cJ6_bitCount_0f7a4 48 = .ok (.iload_n 0, 1) := by decide +kernel
theorem dJ6_bitCount_0f7a4_49 : decode cJ6_bitCount_0f7a4 49 = .ok (.bipush 63, 2) := by decide +kernel
theorem dJ6_bitCount_0f7a4_51 : decode cJ6_bitCount_0f7a4 51 = .ok (.iand, 1) := by decide +kernel
theorem dJ6_bitCount_0f7a4_52 : decode cJ6_bitCount_0f7a4 52 = .ok (.ireturn, 1) := by decide +kernel
theorem dJ9_max_7cf53_0 : decode cJ9_max_7cf53 0 = .ok (.iload_n 0, 1) := by decide +kernel
theorem dJ9_max_7cf53_1 : decode cJ9_max_7cf53 1 = .ok (.iload_n 1, 1) := by decide +kernel
theorem dJ9_max_7cf53_2 : decode cJ9_max_7cf53 2 = .ok (.if_icmp .lt 7, 3) := by decide +kernel
theorem dJ9_max_7cf53_5 : decode cJ9_max_7cf53 5 = .ok (.iload_n 0, 1) := by decide +kernel
theorem dJ9_max_7cf53_6 : decode cJ9_max_7cf53 6 = .ok (.goto 4, 3) := by decide +kernel
theorem dJ9_max_7cf53_9 : decode cJ9_max_7cf53 9 = .ok (.iload_n 1, 1) := by decide +kernel
theorem dJ9_max_7cf53_10 : decode cJ9_max_7cf53 10 = .ok (.ireturn, 1) := by decide +kernel
theorem dJ9_min_7cf53_0 : decode cJ9_min_7cf53 0 = .ok (.iload_n 0, 1) := by decide +kernel
theorem dJ9_min_7cf53_1 : decode cJ9_min_7cf53 1 = .ok (.iload_n 1, 1) := by decide +kernel
theorem dJ9_min_7cf53_2 : decode cJ9_min_7cf53 2 = .ok (.if_icmp .gt 7, 3) := by decide +kernel
theorem dJ9_min_7cf53_5 : decode cJ9_min_7cf53 5 = .ok (.iload_n 0, 1) := by decide +kernel
theorem dJ9_min_7cf53_6 : decode cJ9_min_7cf53 6 = .ok (.goto 4, 3) := by decide +kernel
theorem dJ9_min_7cf53_9 : decode cJ9_min_7cf53 9 = .ok (.iload_n 1, 1) := by decide +kernel
theorem dJ9_min_7cf53_10 : decode cJ9_min_7cf53 10 = .ok (.ireturn, 1) := by decide +kernel
theorem dJ0_length_8abf5_0 : decode cJ0_length_8abf5 0 = .ok (.aload_n 0, 1) := by decide +kernel
theorem dJ0_length_8abf5_1 : decode cJ0_length_8abf5 1 = .ok (.getfield 9, 3) := by decide +kernel
theorem dJ0_length_8abf5_4 : decode cJ0_length_8abf5 4 = .ok (.arraylength, 1) := by decide +kernel
theorem dJ0_length_8abf5_5 : decode cJ0_length_8abf5 5 = .ok (.aload_n 0, 1) := by decide +kernel
theorem dJ0_length_8abf5_6 : decode cJ0_length_8abf5 6 = .ok (.invokevirtual 335, 3) := by decide +kernel
theorem dJ0_length_8abf5_9 : decode cJ0_length_8abf5 9 = .ok (.ishr, 1) := by decide +kernel
theorem dJ0_length_8abf5_10 : decode cJ0_length_8abf5 10 = .ok (.ireturn, 1) := by decide +kernel
theorem dJ0_isEmpty_aae02_0 : decode cJ0_isEmpty_aae02 0 = .ok (.aload_n 0, 1) := by decide +kernel
theorem dJ0_isEmpty_aae02_1 : decode cJ0_isEmpty_aae02 1 = .ok (.getfield 9, 3) := by decide +kernel
theorem dJ0_isEmpty_aae02_4 : decode cJ0_isEmpty_aae02 4 = .ok (.arraylength, 1) := by decide +kernel
theorem dJ0_isEmpty_aae02_5 : decode cJ0_isEmpty_aae02 5 = .ok (.ifCond .ne 7, 3) := by decide +kernel
theorem dJ0_isEmpty_aae02_8 : decode cJ0_isEmpty_aae02 8 = .ok (.iconst 1, 1) := by decide +kernel
theorem dJ0_isEmpty_aae02_9 : decode cJ0_isEmpty_aae02 9 = .ok (.goto 4, 3) := by decide +kernel
theorem dJ0_isEmpty_aae02_12 : decode cJ0_isEmpty_aae02 12 = .ok (.iconst 0, 1) := by decide +kernel
theorem dJ0_isEmpty_aae02_13 : decode cJ0_isEmpty_aae02 13 = .ok (.ireturn, 1) := by decide +kernel
theorem dJ0_charAt_5068e_0 : decode cJ0_charAt_5068e 0 = .ok (.aload_n 0, 1) := by decide +kernel
theorem dJ0_charAt_5068e_1 : decode cJ0_charAt_5068e 1 = .ok (.invokevirtual 492, 3) := by decide +kernel
theorem dJ0_charAt_5068e_4 : decode cJ0_charAt_5068e 4 = .ok (.ifCond .eq 12, 3) := by decide +kernel
theorem dJ0_charAt_5068e_7 : decode cJ0_charAt_5068e 7 = .ok (.aload_n 0, 1) := by decide +kernel
theorem dJ0_charAt_5068e_8 : decode cJ0_charAt_5068e 8 = .ok (.getfield 9, 3) := by decide +kernel
theorem dJ0_charAt_5068e_11 : decode cJ0_charAt_5068e 11 = .ok (.iload_n 1, 1) := by decide +kernel
theorem dJ0_charAt_5068e_12 : decode cJ0_charAt_5068e 12 = .ok (.invokestatic 495, 3) := by decide +kernel
theorem dJ0_charAt_5068e_15 : decode cJ0_charAt_5068e 15 = .ok (.ireturn, 1) := by decide +kernel
theorem dJ0_charAt_5068e_16 : decode cJ0_charAt_5068e 16 = .ok (.aload_n 0, 1) := by decide +kernel
theorem dJ0_charAt_5068e_17 : decode cJ0_charAt_5068e 17 = .ok (.getfield 9, 3) := by decide +kernel
theorem dJ0_charAt_5068e_20 : decode cJ0_charAt_5068e 20 = .ok (.iload_n 1, 1) := by decide +kernel
theorem dJ0_charAt_5068e_21 : decode cJ0_charAt_5068e 21 = .ok (.invokestatic 498, 3) := by decide +kernel
theorem dJ0_charAt_5068e_24 : decode cJ0_charAt_5068e 24 = .ok (.ireturn, 1) := by decide +kernel
theorem dJ0_coder_7d493_0 : decode cJ0_coder_7d493 0 = .ok (.getstatic 38, 3) := by decide +kernel
theorem dJ0_coder_7d493_3 : decode cJ0_coder_7d493 3 = .ok (.ifCond .eq 10, 3) := by decide +kernel
theorem dJ0_coder_7d493_6 : decode cJ0_coder_7d493 6 = .ok (.aload_n 0, 1) := by decide +kernel
theorem dJ0_coder_7d493_7 : decode cJ0_coder_7d493 7 = .ok (.getfield 15, 3) := by decide +kernel
theorem dJ0_coder_7d493_10 : decode cJ0_coder_7d493 10 = .ok (.goto 4, 3) := by decide +kernel
theorem dJ0_coder_7d493_13 : decode cJ0_coder_7d493 13 = .ok (.iconst 1, 1) := by decide +kernel
theorem dJ0_coder_7d493_14 : decode cJ0_coder_7d493 14 = .ok (.ireturn, 1) := by decide +kernel
theorem dJ0_isLatin1_aae02_0 : decode cJ0_isLatin1_aae02 0 = .ok (.getstatic 38, 3) := by decide +kernel
theorem dJ0_isLatin1_aae02_3 : decode cJ0_isLatin1_aae02 3 = .ok (.ifCond .eq 14, 3) := by decide +kernel
theorem dJ0_isLatin1_aae02_6 : decode cJ0_isLatin1_aae02 6 = .ok (.aload_n 0, 1) := by decide +kernel
theorem dJ0_isLatin1_aae02_7 : decode cJ0_isLatin1_aae02 7 = .ok (.getfield 15, 3) := by decide +kernel
theorem dJ0_isLatin1_aae02_10 : decode cJ0_isLatin1_aae02 10 = .ok (.ifCond .ne 7, 3) := by decide +kernel
theorem dJ0_isLatin1_aae02_13 : decode cJ0_isLatin1_aae02 13 = .ok (.iconst 1, 1) := by decide +kernel
theorem dJ0_isLatin1_aae02_14 : decode cJ0_isLatin1_aae02 14 = .ok (.goto 4, 3) := by decide +kernel
theorem dJ0_isLatin1_aae02_17 : decode cJ0_isLatin1_aae02 17 = .ok (.iconst 0, 1) := by decide +kernel
theorem dJ0_isLatin1_aae02_18 : decode cJ0_isLatin1_aae02 18 = .ok (.ireturn, 1) := by decide +kernel
theorem dJ0_checkIndex_df160_0 : decode cJ0_checkIndex_df160 0 = .ok (.iload_n 0, 1) := by decide +kernel
theorem dJ0_checkIndex_df160_1 : decode cJ0_checkIndex_df160 1 = .ok (.iload_n 1, 1) := by decide +kernel
theorem dJ0_checkIndex_df160_2 : decode cJ0_checkIndex_df160 2 = .ok (.getstatic 1053, 3) := by decide +kernel
theorem dJ0_checkIndex_df160_5 : decode cJ0_checkIndex_df160 5 = .ok (.invokestatic 1059, 3) := by decide +kernel
theorem dJ0_checkIndex_df160_8 : decode cJ0_checkIndex_df160 8 = .ok (.pop, 1) := by decide +kernel
theorem dJ0_checkIndex_df160_9 : decode cJ0_checkIndex_df160 9 = .ok (.return_, 1) := by decide +kernel
theorem dJ1_charAt_3b067_0 : decode cJ1_charAt_3b067 0 = .ok (.iload_n 1, 1) := by decide +kernel
theorem dJ1_charAt_3b067_1 : decode cJ1_charAt_3b067 1 = .ok (.aload_n 0, 1) := by decide +kernel
theorem dJ1_charAt_3b067_2 : decode cJ1_charAt_3b067 2 = .ok (.arraylength, 1) := by decide +kernel
theorem dJ1_charAt_3b067_3 : decode cJ1_charAt_3b067 3 = .ok (.invokestatic 9, 3) := by decide +kernel
theorem dJ1_charAt_3b067_6 : decode cJ1_charAt_3b067 6 = .ok (.aload_n 0, 1) := by decide +kernel
theorem dJ1_charAt_3b067_7 : decode cJ1_charAt_3b067 7 = .ok (.iload_n 1, 1) := by decide +kernel
theorem dJ1_charAt_3b067_8 : decode cJ1_charAt_3b067 8 = .ok (.baload, 1) := by decide +kernel
theorem dJ1_charAt_3b067_9 : decode cJ1_charAt_3b067 9 = .ok (.sipush 255, 3) := by decide +kernel
theorem dJ1_charAt_3b067_12 : decode cJ1_charAt_3b067 12 = .ok (.iand, 1) := by decide +kernel
theorem dJ1_charAt_3b067_13 : decode cJ1_charAt_3b067 13 = .ok (.i2c, 1) := by decide +kernel
theorem dJ1_charAt_3b067_14 : decode cJ1_charAt_3b067 14 = .ok (.ireturn, 1) := by decide +kernel
theorem dJ2_getChar_3b067_0 : decode cJ2_getChar_3b067 0 = .ok (.getstatic 44, 3) := by decide +kernel
theorem dJ2_getChar_3b067_3 : decode cJ2_getChar_3b067 3 = .ok (.ifCond .ne 25, 3) := by decide +kernel
theorem dJ2_getChar_3b067_6 : decode cJ2_getChar_3b067 6 = .ok (.iload_n 1, 1) := by decide +kernel
theorem dJ2_getChar_3b067_7 : decode cJ2_getChar_3b067 7 = .ok (.ifCond .lt 11, 3) := by decide +kernel
theorem dJ2_getChar_3b067_10 : decode cJ2_getChar_3b067 10 = .ok (.iload_n 1, 1) := by decide +kernel
theorem dJ2_getChar_3b067_11 : decode cJ2_getChar_3b067 11 = .ok (.aload_n 0, 1) := by decide +kernel
theorem dJ2_getChar_3b067_12 : decode cJ2_getChar_3b067 12 = .ok (.invokestatic 48, 3) := by decide +kernel
theorem dJ2_getChar_3b067_15 : decode cJ2_getChar_3b067 15 = .ok (.if_icmp .lt 13, 3) := by decide +kernel
theorem dJ2_getChar_3b067_18 : decode cJ2_getChar_3b067 18 = .ok (.new 52, 3) := by decide +kernel
theorem dJ2_getChar_3b067_21 : decode cJ2_getChar_3b067 21 = .ok (.dup, 1) := by decide +kernel
theorem dJ2_getChar_3b067_22 : decode cJ2_getChar_3b067 22 = .ok (.ldc 54, 2) := by decide +kernel
theorem dJ2_getChar_3b067_24 : decode cJ2_getChar_3b067 24 = .ok (.invokespecial 56, 3) := by decide +kernel
theorem dJ2_getChar_3b067_27 : decode cJ2_getChar_3b067 27 = .ok (.athrow, 1) := by decide +kernel
theorem dJ2_getChar_3b067_28 : decode cJ2_getChar_3b067 28 = .ok (.iload_n 1, 1) := by decide +kernel
theorem dJ2_getChar_3b067_29 : decode cJ2_getChar_3b067 29 = .ok (.iconst 1, 1) := by decide +kernel
theorem dJ2_getChar_3b067_30 : decode cJ2_getChar_3b067 30 = .ok (.ishl, 1) := by decide +kernel
theorem dJ2_getChar_3b067_31 : decode cJ2_getChar_3b067 31 = .ok (.istore_n 1, 1) := by decide +kernel
theorem dJ2_getChar_3b067_32 : decode cJ2_getChar_3b067 32 = .ok (.aload_n 0, 1) := by decide +kernel
theorem dJ2_getChar_3b067_33 : decode cJ2_getChar_3b067 33 = .ok (.iload_n 1, 1) := by decide +kernel
theorem dJ2_getChar_3b067_34 : decode cJ2_getChar_3b067 34 = .ok (.iinc 1 1, 3) := by decide +kernel
theorem dJ2_getChar_3b067_37 : decode cJ2_getChar_3b067 37 = .ok (.baload, 1) := by decide +kernel
theorem dJ2_getChar_3b067_38 : decode cJ2_getChar_3b067 38 = .ok (.sipush 255, 3) := by decide +kernel
theorem dJ2_getChar_3b067_41 : decode cJ2_getChar_3b067 41 = .ok (.iand, 1) := by decide +kernel
theorem dJ2_getChar_3b067_42 : decode cJ2_getChar_3b067 42 = .ok (.getstatic 59, 3) := by decide +kernel
theorem dJ2_getChar_3b067_45 : decode cJ2_getChar_3b067 45 = .ok (.ishl, 1) := by decide +kernel
theorem dJ2_getChar_3b067_46 : decode cJ2_getChar_3b067 46 = .ok (.aload_n 0, 1) := by decide +kernel
theorem dJ2_getChar_3b067_47 : decode cJ2_getChar_3b067 47 = .ok (.iload_n 1, 1) := by decide +kernel
theorem dJ2_getChar_3b067_48 : decode cJ2_getChar_3b067 48 = .ok (.baload, 1) := by decide +kernel
theorem dJ2_getChar_3b067_49 : decode cJ2_getChar_3b067 49 = .ok (.sipush 255, 3) := by decide +kernel
theorem dJ2_getChar_3b067_52 : decode cJ2_getChar_3b067 52 = .ok (.iand, 1) := by decide +kernel
theorem dJ2_getChar_3b067_53 : decode cJ2_getChar_3b067 53 = .ok (.getstatic 63, 3) := by decide +kernel
theorem dJ2_getChar_3b067_56 : decode cJ2_getChar_3b067 56 = .ok (.ishl, 1) := by decide +kernel
theorem dJ2_getChar_3b067_57 : decode cJ2_getChar_3b067 57 = .ok (.ior, 1) := by decide +kernel
theorem dJ2_getChar_3b067_58 : decode cJ2_getChar_3b067 58 = .ok (.i2c, 1) := by decide +kernel
theorem dJ2_getChar_3b067_59 : decode cJ2_getChar_3b067 59 = .ok (.ireturn, 1) := by decide +kernel
theorem dJ2_length_9d52b_0 : decode cJ2_length_9d52b 0 = .ok (.aload_n 0, 1) := by decide +kernel
theorem dJ2_length_9d52b_1 : decode cJ2_length_9d52b 1 = .ok (.arraylength, 1) := by decide +kernel
theorem dJ2_length_9d52b_2 : decode cJ2_length_9d52b 2 = .ok (.iconst 1, 1) := by decide +kernel
theorem dJ2_length_9d52b_3 : decode cJ2_length_9d52b 3 = .ok (.ishr, 1) := by decide +kernel
theorem dJ2_length_9d52b_4 : decode cJ2_length_9d52b 4 = .ok (.ireturn, 1) := by decide +kernel
theorem dJ2_charAt_3b067_0 : decode cJ2_charAt_3b067 0 = .ok (.iload_n 1, 1) := by decide +kernel
theorem dJ2_charAt_3b067_1 : decode cJ2_charAt_3b067 1 = .ok (.aload_n 0, 1) := by decide +kernel
theorem dJ2_charAt_3b067_2 : decode cJ2_charAt_3b067 2 = .ok (.invokestatic 67, 3) := by decide +kernel
theorem dJ2_charAt_3b067_5 : decode cJ2_charAt_3b067 5 = .ok (.aload_n 0, 1) := by decide +kernel
theorem dJ2_charAt_3b067_6 : decode cJ2_charAt_3b067 6 = .ok (.iload_n 1, 1) := by decide +kernel
theorem dJ2_charAt_3b067_7 : decode cJ2_charAt_3b067 7 = .ok (.invokestatic 71, 3) := by decide +kernel
theorem dJ2_charAt_3b067_10 : decode cJ2_charAt_3b067 10 = .ok (.ireturn, 1) := by decide +kernel
theorem dJ2_checkIndex_2214a_0 : decode cJ2_checkIndex_2214a 0 = .ok (.iload_n 0, 1) := by decide +kernel
theorem dJ2_checkIndex_2214a_1 : decode cJ2_checkIndex_2214a 1 = .ok (.aload_n 1, 1) := by decide +kernel
theorem dJ2_checkIndex_2214a_2 : decode cJ2_checkIndex_2214a 2 = .ok (.invokestatic 48, 3) := by decide +kernel
theorem dJ2_checkIndex_2214a_5 : decode cJ2_checkIndex_2214a 5 = .ok (.invokestatic 414, 3) := by decide +kernel
theorem dJ2_checkIndex_2214a_8 : decode cJ2_checkIndex_2214a 8 = .ok (.return_, 1) := by decide +kernel
theorem dJ3_checkIndex_8e157_0 : decode cJ3_checkIndex_8e157 0 = .ok (.iload_n 0, 1) := by decide +kernel
theorem dJ3_checkIndex_8e157_1 : decode cJ3_checkIndex_8e157 1 = .ok (.ifCond .lt 8, 3) := by decide +kernel
theorem dJ3_checkIndex_8e157_4 : decode cJ3_checkIndex_8e157 4 = .ok (.iload_n 0, 1) := by decide +kernel
theorem dJ3_checkIndex_8e157_5 : decode cJ3_checkIndex_8e157 5 = .ok (.iload_n 1, 1) := by decide +kernel
theorem dJ3_checkIndex_8e157_6 : decode cJ3_checkIndex_8e157 6 = .ok (.if_icmp .lt 10, 3) := by decide +kernel
theorem dJ3_checkIndex_8e157_9 : decode cJ3_checkIndex_8e157 9 = .ok (.aload_n 2, 1) := by decide +kernel
theorem dJ3_checkIndex_8e157_10 : decode cJ3_checkIndex_8e157 10 = .ok (.iload_n 0, 1) := by decide +kernel
theorem dJ3_checkIndex_8e157_11 : decode cJ3_checkIndex_8e157 11 = .ok (.iload_n 1, 1) := by decide +kernel
theorem dJ3_checkIndex_8e157_12 : decode cJ3_checkIndex_8e157 12 = .ok (.invokestatic 95, 3) := by decide +kernel
theorem dJ3_checkIndex_8e157_15 : decode cJ3_checkIndex_8e157 15 = .ok (.athrow, 1) := by decide +kernel
theorem dJ3_checkIndex_8e157_16 : decode cJ3_checkIndex_8e157 16 = .ok (.iload_n 0, 1) := by decide +kernel
theorem dJ3_checkIndex_8e157_17 : decode cJ3_checkIndex_8e157 17 = .ok (.ireturn, 1) := by decide +kernel
