theorem dX5_init_0 : decode cX5_init 0 = .ok (.aload_n 0, 1) := by decide +kernel
theorem dX5_init_1 : decode cX5_init 1 = .ok (.invokespecial 1, 3) := by decide +kernel
theorem dX5_init_4 : decode cX5_init 4 = .ok (.aload_n 0, 1) := by decide +kernel
theorem dX5_init_5 : decode cX5_init 5 = .ok (.new 7, 3) := by decide +kernel
theorem dX5_init_8 : decode cX5_init 8 = .ok (.dup, 1) := by decide +kernel
theorem dX5_init_9 : decode cX5_init 9 = .ok (.invokespecial 9, 3) := by decide +kernel
theorem dX5_init_12 : decode cX5_init 12 = .ok (.putfield 10, 3) := by decide +kernel
theorem dX5_init_15 : decode cX5_init 15 = .ok (.aload_n 0, 1) := by decide +kernel
theorem dX5_init_16 : decode cX5_init 16 = .ok (.new 7, 3) := by decide +kernel
theorem dX5_init_19 : decode cX5_init 19 = .ok (.dup, 1) := by decide +kernel
theorem dX5_init_20 : decode cX5_init 20 = .ok (.invokespecial 9, 3) := by decide +kernel
theorem dX5_init_23 : decode cX5_init 23 = .ok (.putfield 16, 3) := by decide +kernel
theorem dX5_init_26 : decode cX5_init 26 = .ok (.aload_n 0, 1) := by decide +kernel
theorem dX5_init_27 : decode cX5_init 27 = .ok (.new 19, 3) := by decide +kernel
theorem dX5_init_30 : decode cX5_init 30 = .ok (.dup, 1) := by decide +kernel
theorem dX5_init_31 : decode cX5_init 31 = .ok (.invokespecial 21, 3) := by decide +kernel
theorem dX5_init_34 : decode cX5_init 34 = .ok (.putfield 22, 3) := by decide +kernel
theorem dX5_init_37 : decode cX5_init 37 = .ok (.aload_n 0, 1) := by decide +kernel
theorem dX5_init_38 : decode cX5_init 38 = .ok (.sipush 530, 3) := by decide +kernel
theorem dX5_init_41 : decode cX5_init 41 = .ok (.newarray .int, 2) := by decide +kernel
theorem dX5_init_43 : decode cX5_init 43 = .ok (.putfield 26, 3) := by decide +kernel
theorem dX5_init_46 : decode cX5_init 46 = .ok (.aload_n 0, 1) := by decide +kernel
theorem dX5_init_47 : decode cX5_init 47 = .ok (.iconst 2, 1) := by decide +kernel
theorem dX5_init_48 : decode cX5_init 48 = .ok (.newarray .boolean, 2) := by decide +kernel
theorem dX5_init_50 : decode cX5_init 50 = .ok (.putfield 30, 3) := by decide +kernel
theorem dX5_init_53 : decode cX5_init 53 = .ok (.aload_n 0, 1) := by decide +kernel
theorem dX5_init_54 : decode cX5_init 54 = .ok (.new 34, 3) := by decide +kernel
theorem dX5_init_57 : decode cX5_init 57 = .ok (.dup, 1) := by decide +kernel
theorem dX5_init_58 : decode cX5_init 58 = .ok (.invokespecial 36, 3) := by decide +kernel
theorem dX5_init_61 : decode cX5_init 61 = .ok (.putfield 37, 3) := by decide +kernel
theorem dX5_init_64 : decode cX5_init 64 = .ok (.aload_n 0, 1) := by decide +kernel
theorem dX5_init_65 : decode cX5_init 65 = .ok (.new 41, 3) := by decide +kernel
theorem dX5_init_68 : decode cX5_init 68 = .ok (.dup, 1) := by decide +kernel
theorem dX5_init_69 : decode cX5_init 69 = .ok (.invokespecial 43, 3) := by decide +kernel
theorem dX5_init_72 : decode cX5_init 72 = .ok (.putfield 44, 3) := by decide +kernel
theorem dX5_init_75 : decode cX5_init 75 = .ok (.aload_n 0, 1) := by decide +kernel
theorem dX5_init_76 : decode cX5_init 76 = .ok (.new 41, 3) := by decide +kernel
theorem dX5_init_79 : decode cX5_init 79 = .ok (.dup, 1) := by decide +kernel
theorem dX5_init_80 : decode cX5_init 80 = .ok (.invokespecial 43, 3) := by decide +kernel
theorem dX5_init_83 : decode cX5_init 83 = .ok (.putfield 48, 3) := by decide +kernel
theorem dX5_init_86 : decode cX5_init 86 = .ok (.aload_n 0, 1) := by decide +kernel
theorem dX5_init_87 : decode cX5_init 87 = .ok (.new 51, 3) := by decide +kernel
theorem dX5_init_90 : decode cX5_init 90 = .ok (.dup, 1) := by decide +kernel
theorem dX5_init_91 : decode cX5_init 91 = .ok (.invokespecial 53, 3) := by decide +kernel
theorem dX5_init_94 : decode cX5_init 94 = .ok (.putfield 54, 3) := by decide +kernel
theorem dX5_init_97 : decode cX5_init 97 = .ok (.aload_n 0, 1) := by decide +kernel
theorem dX5_init_98 : decode cX5_init 98 = .ok (.bipush 20, 2) := by decide +kernel
theorem dX5_init_100 : decode cX5_init 100 = .ok (.newarray .int, 2) := by decide +kernel
theorem dX5_init_102 : decode cX5_init 102 = .ok (.putfield 58, 3) := by decide +kernel
theorem dX5_init_105 : decode cX5_init 105 = .ok (.return_, 1) := by decide +kernel
theorem dX5_append_0 : decode cX5_append 0 = .ok (.iload_n 1, 1) := by decide +kernel
theorem dX5_append_1 : decode cX5_append 1 = .ok (.ifCond .lt 10, 3) := by decide +kernel
theorem dX5_append_4 : decode cX5_append 4 = .ok (.iload_n 1, 1) := by decide +kernel
theorem dX5_append_5 : decode cX5_append 5 = .ok (.sipush 255, 3) := by decide +kernel
theorem dX5_append_8 : decode cX5_append 8 = .ok (.if_icmp .le 13, 3) := by decide +kernel
theorem dX5_append_11 : decode cX5_append 11 = .ok (.new 61, 3) := by decide +kernel
theorem dX5_append_14 : decode cX5_append 14 = .ok (.dup, 1) := by decide +kernel
theorem dX5_append_15 : decode cX5_append 15 = .ok (.ldc 63, 2) := by decide +kernel
theorem dX5_append_17 : decode cX5_append 17 = .ok (.invokespecial 65, 3) := by decide +kernel
theorem dX5_append_20 : decode cX5_append 20 = .ok (.athrow, 1) := by decide +kernel
theorem dX5_append_21 : decode cX5_append 21 = .ok (.aload_n 0, 1) := by decide +kernel
theorem dX5_append_22 : decode cX5_append 22 = .ok (.getfield 37, 3) := by decide +kernel
theorem dX5_append_25 : decode cX5_append 25 = .ok (.invokevirtual 68, 3) := by decide +kernel
theorem dX5_append_28 : decode cX5_append 28 = .ok (.ifCond .eq 13, 3) := by decide +kernel
theorem dX5_append_31 : decode cX5_append 31 = .ok (.new 72, 3) := by decide +kernel
theorem dX5_append_34 : decode cX5_append 34 = .ok (.dup, 1) := by decide +kernel
theorem dX5_append_35 : decode cX5_append 35 = .ok (.ldc 74, 2) := by decide +kernel
theorem dX5_append_37 : decode cX5_append 37 = .ok (.invokespecial 76, 3) := by decide +kernel
theorem dX5_append_40 : decode cX5_append 40 = .ok (.athrow, 1) := by decide +kernel
theorem dX5_append_41 : decode cX5_append 41 = .ok (.aload_n 0, 1) := by decide +kernel
theorem dX5_append_42 : decode cX5_append 42 = .ok (.getfield 37, 3) := by decide +kernel
theorem dX5_append_45 : decode cX5_append 45 = .ok (.iload_n 1, 1) := by decide +kernel
theorem dX5_append_46 : decode cX5_append 46 = .ok (.invokevirtual 77, 3) := by decide +kernel
theorem dX5_append_49 : decode cX5_append 49 = .ok (.aload_n 0, 1) := by decide +kernel
theorem dX5_append_50 : decode cX5_append 50 = .ok (.getfield 37, 3) := by decide +kernel
theorem dX5_append_53 : decode cX5_append 53 = .ok (.invokevirtual 81, 3) := by decide +kernel
theorem dX5_append_56 : decode cX5_append 56 = .ok (.ireturn, 1) := by decide +kernel
theorem dX5_load_0 : decode cX5_load 0 = .ok (.aload_n 0, 1) := by decide +kernel
theorem dX5_load_1 : decode cX5_load 1 = .ok (.getfield 37, 3) := by decide +kernel
theorem dX5_load_4 : decode cX5_load 4 = .ok (.invokevirtual 88, 3) := by decide +kernel
theorem dX5_load_7 : decode cX5_load 7 = .ok (.iconst (-1), 1) := by decide +kernel
theorem dX5_load_8 : decode cX5_load 8 = .ok (.if_icmp .eq 13, 3) := by decide +kernel
theorem dX5_load_11 : decode cX5_load 11 = .ok (.new 72, 3) := by decide +kernel
theorem dX5_load_14 : decode cX5_load 14 = .ok (.dup, 1) := by decide +kernel
theorem dX5_load_15 : decode cX5_load 15 = .ok (.ldc 91, 2) := by decide +kernel
theorem dX5_load_17 : decode cX5_load 17 = .ok (.invokespecial 76, 3) := by decide +kernel
theorem dX5_load_20 : decode cX5_load 20 = .ok (.athrow, 1) := by decide +kernel
theorem dX5_load_21 : decode cX5_load 21 = .ok (.aload_n 0, 1) := by decide +kernel
theorem dX5_load_22 : decode cX5_load 22 = .ok (.getfield 10, 3) := by decide +kernel
theorem dX5_load_25 : decode cX5_load 25 = .ok (.invokevirtual 93, 3) := by decide +kernel
theorem dX5_load_28 : decode cX5_load 28 = .ok (.aload_n 0, 1) := by decide +kernel
theorem dX5_load_29 : decode cX5_load 29 = .ok (.getfield 22, 3) := by decide +kernel
theorem dX5_load_32 : decode cX5_load 32 = .ok (.invokevirtual 96, 3) := by decide +kernel
theorem dX5_load_35 : decode cX5_load 35 = .ok (.iconst 0, 1) := by decide +kernel
theorem dX5_load_36 : decode cX5_load 36 = .ok (.istore_n 1, 1) := by decide +kernel
theorem dX5_load_37 : decode cX5_load 37 = .ok (.iload_n 1, 1) := by decide +kernel
theorem dX5_load_38 : decode cX5_load 38 = .ok (.iconst 2, 1) := by decide +kernel
theorem dX5_load_39 : decode cX5_load 39 = .ok (.if_icmp .ge 16, 3) := by decide +kernel
theorem dX5_load_42 : decode cX5_load 42 = .ok (.aload_n 0, 1) := by decide +kernel
theorem dX5_load_43 : decode cX5_load 43 = .ok (.getfield 30, 3) := by decide +kernel
theorem dX5_load_46 : decode cX5_load 46 = .ok (.iload_n 1, 1) := by decide +kernel
theorem dX5_load_47 : decode cX5_load 47 = .ok (.iconst 0, 1) := by decide +kernel
theorem dX5_load_48 : decode cX5_load 48 = .ok (.bastore, 1) := by decide +kernel
theorem dX5_load_49 : decode cX5_load 49 = .ok (.iinc 1 1, 3) := by decide +kernel
theorem dX5_load_52 : decode cX5_load 52 = .ok (.goto (-15), 3) := by decide +kernel
theorem dX5_load_55 : decode cX5_load 55 = .ok (.iconst 0, 1) := by decide +kernel
theorem dX5_load_56 : decode cX5_load 56 = .ok (.istore_n 1, 1) := by decide +kernel
theorem dX5_load_57 : decode cX5_load 57 = .ok (.iconst 1, 1) := by decide +kernel
theorem dX5_load_58 : decode cX5_load 58 = .ok (.istore_n 2, 1) := by decide +kernel
theorem dX5_load_59 : decode cX5_load 59 = .ok (.iload_n 2, 1) := by decide +kernel
theorem dX5_load_60 : decode cX5_load 60 = .ok (.aload_n 0, 1) := by decide +kernel
theorem dX5_load_61 : decode cX5_load 61 = .ok (.getfield 37, 3) := by decide +kernel
theorem dX5_load_64 : decode cX5_load 64 = .ok (.invokevirtual 81, 3) := by decide +kernel
theorem dX5_load_67 : decode cX5_load 67 = .ok (.if_icmp .ge 30, 3) := by decide +kernel
theorem dX5_load_70 : decode cX5_load 70 = .ok (.aload_n 0, 1) := by decide +kernel
theorem dX5_load_71 : decode cX5_load 71 = .ok (.iload_n 2, 1) := by decide +kernel
theorem dX5_load_72 : decode cX5_load 72 = .ok (.invokevirtual 99, 3) := by decide +kernel
theorem dX5_load_75 : decode cX5_load 75 = .ok (.ifCond .ne 6, 3) := by decide +kernel
theorem dX5_load_78 : decode cX5_load 78 = .ok (.iinc 1 1, 3) := by decide +kernel
theorem dX5_load_81 : decode cX5_load 81 = .ok (.iload_n 2, 1) := by decide +kernel
theorem dX5_load_82 : decode cX5_load 82 = .ok (.iconst 1, 1) := by decide +kernel
theorem dX5_load_83 : decode cX5_load 83 = .ok (.aload_n 0, 1) := by decide +kernel
theorem dX5_load_84 : decode cX5_load 84 = .ok (.getfield 37, 3) := by decide +kernel
theorem dX5_load_87 : decode cX5_load 87 = .ok (.iload_n 2, 1) := by decide +kernel
theorem dX5_load_88 : decode cX5_load 88 = .ok (.invokevirtual 103, 3) := by decide +kernel
theorem dX5_load_91 : decode cX5_load 91 = .ok (.iadd, 1) := by decide +kernel
theorem dX5_load_92 : decode cX5_load 92 = .ok (.iadd, 1) := by decide +kernel
theorem dX5_load_93 : decode cX5_load 93 = .ok (.istore_n 2, 1) := by decide +kernel
theorem dX5_load_94 : decode cX5_load 94 = .ok (.goto (-35), 3) := by decide +kernel
theorem dX5_load_97 : decode cX5_load 97 = .ok (.iload_n 1, 1) := by decide +kernel
theorem dX5_load_98 : decode cX5_load 98 = .ok (.ireturn, 1) := by decide +kernel
theorem dX5_obeyText_0 : decode cX5_obeyText 0 = .ok (.aload_n 0, 1) := by decide +kernel
theorem dX5_obeyText_1 : decode cX5_obeyText 1 = .ok (.getfield 37, 3) := by decide +kernel
theorem dX5_obeyText_4 : decode cX5_obeyText 4 = .ok (.iload_n 1, 1) := by decide +kernel
theorem dX5_obeyText_5 : decode cX5_obeyText 5 = .ok (.invokevirtual 107, 3) := by decide +kernel
theorem dX5_obeyText_8 : decode cX5_obeyText 8 = .ok (.lookupswitch 229 #[(97, 60), (99, 86), (105, 152), (112, 78), (115, 181), (117, 124)], 60) := by decide +kernel
theorem dX5_obeyText_68 : decode cX5_obeyText 68 = .ok (.aload_n 0, 1) := by decide +kernel
theorem dX5_obeyText_69 : decode cX5_obeyText 69 = .ok (.getfield 10, 3) := by decide +kernel
theorem dX5_obeyText_72 : decode cX5_obeyText 72 = .ok (.aload_n 0, 1) := by decide +kernel
theorem dX5_obeyText_73 : decode cX5_obeyText 73 = .ok (.getfield 37, 3) := by decide +kernel
theorem dX5_obeyText_76 : decode cX5_obeyText 76 = .ok (.iload_n 1, 1) := by decide +kernel
theorem dX5_obeyText_77 : decode cX5_obeyText 77 = .ok (.iconst 1, 1) := by decide +kernel
theorem dX5_obeyText_78 : decode cX5_obeyText 78 = .ok (.iadd, 1) := by decide +kernel
theorem dX5_obeyText_79 : decode cX5_obeyText 79 = .ok (.invokevirtual 110, 3) := by decide +kernel
theorem dX5_obeyText_82 : decode cX5_obeyText 82 = .ok (.invokevirtual 113, 3) := by decide +kernel
theorem dX5_obeyText_85 : decode cX5_obeyText 85 = .ok (.ireturn, 1) := by decide +kernel
theorem dX5_obeyText_86 : decode cX5_obeyText 86 = .ok (.aload_n 0, 1) := by decide +kernel
theorem dX5_obeyText_87 : decode cX5_obeyText 87 = .ok (.getfield 10, 3) := by decide +kernel
theorem dX5_obeyText_90 : decode cX5_obeyText 90 = .ok (.invokevirtual 116, 3) := by decide +kernel
theorem dX5_obeyText_93 : decode cX5_obeyText 93 = .ok (.ireturn, 1) := by decide +kernel
theorem dX5_obeyText_94 : decode cX5_obeyText 94 = .ok (.aload_n 0, 1) := by decide +kernel
theorem dX5_obeyText_95 : decode cX5_obeyText 95 = .ok (.getfield 10, 3) := by decide +kernel
theorem dX5_obeyText_98 : decode cX5_obeyText 98 = .ok (.aload_n 0, 1) := by decide +kernel
theorem dX5_obeyText_99 : decode cX5_obeyText 99 = .ok (.getfield 37, 3) := by decide +kernel
theorem dX5_obeyText_102 : decode cX5_obeyText 102 = .ok (.iload_n 1, 1) := by decide +kernel
theorem dX5_obeyText_103 : decode cX5_obeyText 103 = .ok (.iconst 1, 1) := by decide +kernel
theorem dX5_obeyText_104 : decode cX5_obeyText 104 = .ok (.iadd, 1) := by decide +kernel
theorem dX5_obeyText_105 : decode cX5_obeyText 105 = .ok (.invokevirtual 110, 3) := by decide +kernel
theorem dX5_obeyText_108 : decode cX5_obeyText 108 = .ok (.aload_n 0, 1) := by decide +kernel
theorem dX5_obeyText_109 : decode cX5_obeyText 109 = .ok (.getfield 37, 3) := by decide +kernel
theorem dX5_obeyText_112 : decode cX5_obeyText 112 = .ok (.iload_n 1, 1) := by decide +kernel
theorem dX5_obeyText_113 : decode cX5_obeyText 113 = .ok (.iconst 2, 1) := by decide +kernel
theorem dX5_obeyText_114 : decode cX5_obeyText 114 = .ok (.iadd, 1) := by decide +kernel
theorem dX5_obeyText_115 : decode cX5_obeyText 115 = .ok (.invokevirtual 110, 3) := by decide +kernel
theorem dX5_obeyText_118 : decode cX5_obeyText 118 = .ok (.aload_n 0, 1) := by decide +kernel
theorem dX5_obeyText_119 : decode cX5_obeyText 119 = .ok (.getfield 37, 3) := by decide +kernel
theorem dX5_obeyText_122 : decode cX5_obeyText 122 = .ok (.iload_n 1, 1) := by decide +kernel
theorem dX5_obeyText_123 : decode cX5_obeyText 123 = .ok (.iconst 3, 1) := by decide +kernel
theorem dX5_obeyText_124 : decode cX5_obeyText 124 = .ok (.iadd, 1) := by decide +kernel
theorem dX5_obeyText_125 : decode cX5_obeyText 125 = .ok (.invokevirtual 119, 3) := by decide +kernel
theorem dX5_obeyText_128 : decode cX5_obeyText 128 = .ok (.invokevirtual 122, 3) := by decide +kernel
theorem dX5_obeyText_131 : decode cX5_obeyText 131 = .ok (.ireturn, 1) := by decide +kernel
theorem dX5_obeyText_132 : decode cX5_obeyText 132 = .ok (.aload_n 0, 1) := by decide +kernel
theorem dX5_obeyText_133 : decode cX5_obeyText 133 = .ok (.getfield 10, 3) := by decide +kernel
theorem dX5_obeyText_136 : decode cX5_obeyText 136 = .ok (.aload_n 0, 1) := by decide +kernel
theorem dX5_obeyText_137 : decode cX5_obeyText 137 = .ok (.getfield 37, 3) := by decide +kernel
theorem dX5_obeyText_140 : decode cX5_obeyText 140 = .ok (.iload_n 1, 1) := by decide +kernel
theorem dX5_obeyText_141 : decode cX5_obeyText 141 = .ok (.iconst 1, 1) := by decide +kernel
theorem dX5_obeyText_142 : decode cX5_obeyText 142 = .ok (.iadd, 1) := by decide +kernel
theorem dX5_obeyText_143 : decode cX5_obeyText 143 = .ok (.invokevirtual 110, 3) := by decide +kernel
theorem dX5_obeyText_146 : decode cX5_obeyText 146 = .ok (.aload_n 0, 1) := by decide +kernel
theorem dX5_obeyText_147 : decode cX5_obeyText 147 = .ok (.getfield 37, 3) := by decide +kernel
theorem dX5_obeyText_150 : decode cX5_obeyText 150 = .ok (.iload_n 1, 1) := by decide +kernel
theorem dX5_obeyText_151 : decode cX5_obeyText 151 = .ok (.iconst 2, 1) := by decide +kernel
theorem dX5_obeyText_152 : decode cX5_obeyText 152 = .ok (.iadd, 1) := by decide +kernel
theorem dX5_obeyText_153 : decode cX5_obeyText 153 = .ok (.invokevirtual 110, 3) := by decide +kernel
theorem dX5_obeyText_156 : decode cX5_obeyText 156 = .ok (.invokevirtual 126, 3) := by decide +kernel
theorem dX5_obeyText_159 : decode cX5_obeyText 159 = .ok (.ireturn, 1) := by decide +kernel
theorem dX5_obeyText_160 : decode cX5_obeyText 160 = .ok (.aload_n 0, 1) := by decide +kernel
theorem dX5_obeyText_161 : decode cX5_obeyText 161 = .ok (.getfield 10, 3) := by decide +kernel
theorem dX5_obeyText_164 : decode cX5_obeyText 164 = .ok (.aload_n 0, 1) := by decide +kernel
theorem dX5_obeyText_165 : decode cX5_obeyText 165 = .ok (.getfield 37, 3) := by decide +kernel
theorem dX5_obeyText_168 : decode cX5_obeyText 168 = .ok (.iload_n 1, 1) := by decide +kernel
theorem dX5_obeyText_169 : decode cX5_obeyText 169 = .ok (.iconst 1, 1) := by decide +kernel
theorem dX5_obeyText_170 : decode cX5_obeyText 170 = .ok (.iadd, 1) := by decide +kernel
theorem dX5_obeyText_171 : decode cX5_obeyText 171 = .ok (.invokevirtual 110, 3) := by decide +kernel
theorem dX5_obeyText_174 : decode cX5_obeyText 174 = .ok (.aload_n 0, 1) := by decide +kernel
theorem dX5_obeyText_175 : decode cX5_obeyText 175 = .ok (.getfield 37, 3) := by decide +kernel
theorem dX5_obeyText_178 : decode cX5_obeyText 178 = .ok (.iload_n 1, 1) := by decide +kernel
theorem dX5_obeyText_179 : decode cX5_obeyText 179 = .ok (.iconst 2, 1) := by decide +kernel
theorem dX5_obeyText_180 : decode cX5_obeyText 180 = .ok (.iadd, 1) := by decide +kernel
theorem dX5_obeyText_181 : decode cX5_obeyText 181 = .ok (.invokevirtual 119, 3) := by decide +kernel
theorem dX5_obeyText_184 : decode cX5_obeyText 184 = .ok (.iconst 1, 1) := by decide +kernel
theorem dX5_obeyText_185 : decode cX5_obeyText 185 = .ok (.invokevirtual 130, 3) := by decide +kernel
theorem dX5_obeyText_188 : decode cX5_obeyText 188 = .ok (.ireturn, 1) := by decide +kernel
theorem dX5_obeyText_189 : decode cX5_obeyText 189 = .ok (.aload_n 0, 1) := by decide +kernel
theorem dX5_obeyText_190 : decode cX5_obeyText 190 = .ok (.getfield 10, 3) := by decide +kernel
theorem dX5_obeyText_193 : decode cX5_obeyText 193 = .ok (.aload_n 0, 1) := by decide +kernel
theorem dX5_obeyText_194 : decode cX5_obeyText 194 = .ok (.getfield 37, 3) := by decide +kernel
theorem dX5_obeyText_197 : decode cX5_obeyText 197 = .ok (.iload_n 1, 1) := by decide +kernel
theorem dX5_obeyText_198 : decode cX5_obeyText 198 = .ok (.iconst 1, 1) := by decide +kernel
theorem dX5_obeyText_199 : decode cX5_obeyText 199 = .ok (.iadd, 1) := by decide +kernel
theorem dX5_obeyText_200 : decode cX5_obeyText 200 = .ok (.invokevirtual 119, 3) := by decide +kernel
theorem dX5_obeyText_203 : decode cX5_obeyText 203 = .ok (.aload_n 0, 1) := by decide +kernel
theorem dX5_obeyText_204 : decode cX5_obeyText 204 = .ok (.getfield 37, 3) := by decide +kernel
theorem dX5_obeyText_207 : decode cX5_obeyText 207 = .ok (.iload_n 1, 1) := by decide +kernel
theorem dX5_obeyText_208 : decode cX5_obeyText 208 = .ok (.iconst 3, 1) := by decide +kernel
theorem dX5_obeyText_209 : decode cX5_obeyText 209 = .ok (.iadd, 1) := by decide +kernel
theorem dX5_obeyText_210 : decode cX5_obeyText 210 = .ok (.invokevirtual 110, 3) := by decide +kernel
theorem dX5_obeyText_213 : decode cX5_obeyText 213 = .ok (.aload_n 0, 1) := by decide +kernel
theorem dX5_obeyText_214 : decode cX5_obeyText 214 = .ok (.getfield 37, 3) := by decide +kernel
theorem dX5_obeyText_217 : decode cX5_obeyText 217 = .ok (.iload_n 1, 1) := by decide +kernel
theorem dX5_obeyText_218 : decode cX5_obeyText 218 = .ok (.iconst 4, 1) := by decide +kernel
theorem dX5_obeyText_219 : decode cX5_obeyText 219 = .ok (.iadd, 1) := by decide +kernel
theorem dX5_obeyText_220 : decode cX5_obeyText 220 = .ok (.invokevirtual 110, 3) := by decide +kernel
theorem dX5_obeyText_223 : decode cX5_obeyText 223 = .ok (.aload_n 0, 1) := by decide +kernel
theorem dX5_obeyText_224 : decode cX5_obeyText 224 = .ok (.getfield 37, 3) := by decide +kernel
theorem dX5_obeyText_227 : decode cX5_obeyText 227 = .ok (.iload_n 1, 1) := by decide +kernel
theorem dX5_obeyText_228 : decode cX5_obeyText 228 = .ok (.iconst 5, 1) := by decide +kernel
theorem dX5_obeyText_229 : decode cX5_obeyText 229 = .ok (.iadd, 1) := by decide +kernel
theorem dX5_obeyText_230 : decode cX5_obeyText 230 = .ok (.invokevirtual 119, 3) := by decide +kernel
theorem dX5_obeyText_233 : decode cX5_obeyText 233 = .ok (.invokevirtual 134, 3) := by decide +kernel
theorem dX5_obeyText_236 : decode cX5_obeyText 236 = .ok (.ireturn, 1) := by decide +kernel
theorem dX5_obeyText_237 : decode cX5_obeyText 237 = .ok (.iconst 0, 1) := by decide +kernel
theorem dX5_obeyText_238 : decode cX5_obeyText 238 = .ok (.ireturn, 1) := by decide +kernel
theorem dX5_about_0 : decode cX5_about 0 = .ok (.iload_n 1, 1) := by decide +kernel
theorem dX5_about_1 : decode cX5_about 1 = .ok (.tableswitch 115 0 6 #[43, 51, 59, 67, 86, 105, 110], 43) := by decide +kernel
theorem dX5_about_44 : decode cX5_about 44 = .ok (.aload_n 0, 1) := by decide +kernel
theorem dX5_about_45 : decode cX5_about 45 = .ok (.getfield 10, 3) := by decide +kernel
theorem dX5_about_48 : decode cX5_about 48 = .ok (.invokevirtual 138, 3) := by decide +kernel
theorem dX5_about_51 : decode cX5_about 51 = .ok (.ireturn, 1) := by decide +kernel
theorem dX5_about_52 : decode cX5_about 52 = .ok (.aload_n 0, 1) := by decide +kernel
theorem dX5_about_53 : decode cX5_about 53 = .ok (.getfield 10, 3) := by decide +kernel
theorem dX5_about_56 : decode cX5_about 56 = .ok (.invokevirtual 141, 3) := by decide +kernel
theorem dX5_about_59 : decode cX5_about 59 = .ok (.ireturn, 1) := by decide +kernel
theorem dX5_about_60 : decode cX5_about 60 = .ok (.aload_n 0, 1) := by decide +kernel
theorem dX5_about_61 : decode cX5_about 61 = .ok (.getfield 10, 3) := by decide +kernel
theorem dX5_about_64 : decode cX5_about 64 = .ok (.invokevirtual 144, 3) := by decide +kernel
theorem dX5_about_67 : decode cX5_about 67 = .ok (.ireturn, 1) := by decide +kernel
theorem dX5_about_68 : decode cX5_about 68 = .ok (.aload_n 0, 1) := by decide +kernel
theorem dX5_about_69 : decode cX5_about 69 = .ok (.getfield 54, 3) := by decide +kernel
theorem dX5_about_72 : decode cX5_about 72 = .ok (.aload_n 0, 1) := by decide +kernel
theorem dX5_about_73 : decode cX5_about 73 = .ok (.getfield 10, 3) := by decide +kernel
theorem dX5_about_76 : decode cX5_about 76 = .ok (.invokevirtual 147, 3) := by decide +kernel
theorem dX5_about_79 : decode cX5_about 79 = .ok (.aload_n 0, 1) := by decide +kernel
theorem dX5_about_80 : decode cX5_about 80 = .ok (.getfield 54, 3) := by decide +kernel
theorem dX5_about_83 : decode cX5_about 83 = .ok (.invokevirtual 151, 3) := by decide +kernel
theorem dX5_about_86 : decode cX5_about 86 = .ok (.ireturn, 1) := by decide +kernel
theorem dX5_about_87 : decode cX5_about 87 = .ok (.aload_n 0, 1) := by decide +kernel
theorem dX5_about_88 : decode cX5_about 88 = .ok (.getfield 54, 3) := by decide +kernel
theorem dX5_about_91 : decode cX5_about 91 = .ok (.aload_n 0, 1) := by decide +kernel
theorem dX5_about_92 : decode cX5_about 92 = .ok (.getfield 10, 3) := by decide +kernel
theorem dX5_about_95 : decode cX5_about 95 = .ok (.invokevirtual 147, 3) := by decide +kernel
theorem dX5_about_98 : decode cX5_about 98 = .ok (.aload_n 0, 1) := by decide +kernel
theorem dX5_about_99 : decode cX5_about 99 = .ok (.getfield 54, 3) := by decide +kernel
theorem dX5_about_102 : decode cX5_about 102 = .ok (.invokevirtual 154, 3) := by decide +kernel
theorem dX5_about_105 : decode cX5_about 105 = .ok (.ireturn, 1) := by decide +kernel
theorem dX5_about_106 : decode cX5_about 106 = .ok (.aload_n 0, 1) := by decide +kernel
theorem dX5_about_107 : decode cX5_about 107 = .ok (.invokevirtual 157, 3) := by decide +kernel
theorem dX5_about_110 : decode cX5_about 110 = .ok (.ireturn, 1) := by decide +kernel
theorem dX5_about_111 : decode cX5_about 111 = .ok (.aload_n 0, 1) := by decide +kernel
theorem dX5_about_112 : decode cX5_about 112 = .ok (.invokevirtual 160, 3) := by decide +kernel
theorem dX5_about_115 : decode cX5_about 115 = .ok (.ireturn, 1) := by decide +kernel
theorem dX5_about_116 : decode cX5_about 116 = .ok (.new 61, 3) := by decide +kernel
theorem dX5_about_119 : decode cX5_about 119 = .ok (.dup, 1) := by decide +kernel
theorem dX5_about_120 : decode cX5_about 120 = .ok (.ldc 163, 2) := by decide +kernel
theorem dX5_about_122 : decode cX5_about 122 = .ok (.invokespecial 65, 3) := by decide +kernel
theorem dX5_about_125 : decode cX5_about 125 = .ok (.athrow, 1) := by decide +kernel
theorem dX5_unlikeBills_0 : decode cX5_unlikeBills 0 = .ok (.iconst 0, 1) := by decide +kernel
theorem dX5_unlikeBills_1 : decode cX5_unlikeBills 1 = .ok (.istore_n 1, 1) := by decide +kernel
theorem dX5_unlikeBills_2 : decode cX5_unlikeBills 2 = .ok (.iconst 0, 1) := by decide +kernel
theorem dX5_unlikeBills_3 : decode cX5_unlikeBills 3 = .ok (.istore_n 2, 1) := by decide +kernel
theorem dX5_unlikeBills_4 : decode cX5_unlikeBills 4 = .ok (.iload_n 2, 1) := by decide +kernel
theorem dX5_unlikeBills_5 : decode cX5_unlikeBills 5 = .ok (.bipush 20, 2) := by decide +kernel
theorem dX5_unlikeBills_7 : decode cX5_unlikeBills 7 = .ok (.if_icmp .ge 75, 3) := by decide +kernel
theorem dX5_unlikeBills_10 : decode cX5_unlikeBills 10 = .ok (.aload_n 0, 1) := by decide +kernel
theorem dX5_unlikeBills_11 : decode cX5_unlikeBills 11 = .ok (.getfield 44, 3) := by decide +kernel
theorem dX5_unlikeBills_14 : decode cX5_unlikeBills 14 = .ok (.aload_n 0, 1) := by decide +kernel
theorem dX5_unlikeBills_15 : decode cX5_unlikeBills 15 = .ok (.getfield 10, 3) := by decide +kernel
theorem dX5_unlikeBills_18 : decode cX5_unlikeBills 18 = .ok (.iload_n 2, 1) := by decide +kernel
theorem dX5_unlikeBills_19 : decode cX5_unlikeBills 19 = .ok (.invokevirtual 165, 3) := by decide +kernel
theorem dX5_unlikeBills_22 : decode cX5_unlikeBills 22 = .ok (.aload_n 0, 1) := by decide +kernel
theorem dX5_unlikeBills_23 : decode cX5_unlikeBills 23 = .ok (.getfield 58, 3) := by decide +kernel
theorem dX5_unlikeBills_26 : decode cX5_unlikeBills 26 = .ok (.iload_n 2, 1) := by decide +kernel
theorem dX5_unlikeBills_27 : decode cX5_unlikeBills 27 = .ok (.aload_n 0, 1) := by decide +kernel
theorem dX5_unlikeBills_28 : decode cX5_unlikeBills 28 = .ok (.getfield 44, 3) := by decide +kernel
theorem dX5_unlikeBills_31 : decode cX5_unlikeBills 31 = .ok (.invokevirtual 169, 3) := by decide +kernel
theorem dX5_unlikeBills_34 : decode cX5_unlikeBills 34 = .ok (.ifCond .eq 7, 3) := by decide +kernel
theorem dX5_unlikeBills_37 : decode cX5_unlikeBills 37 = .ok (.iconst (-1), 1) := by decide +kernel
theorem dX5_unlikeBills_38 : decode cX5_unlikeBills 38 = .ok (.goto 10, 3) := by decide +kernel
theorem dX5_unlikeBills_41 : decode cX5_unlikeBills 41 = .ok (.aload_n 0, 1) := by decide +kernel
theorem dX5_unlikeBills_42 : decode cX5_unlikeBills 42 = .ok (.getfield 44, 3) := by decide +kernel
theorem dX5_unlikeBills_45 : decode cX5_unlikeBills 45 = .ok (.invokevirtual 172, 3) := by decide +kernel
theorem dX5_unlikeBills_48 : decode cX5_unlikeBills 48 = .ok (.iastore, 1) := by decide +kernel
theorem dX5_unlikeBills_49 : decode cX5_unlikeBills 49 = .ok (.aload_n 0, 1) := by decide +kernel
theorem dX5_unlikeBills_50 : decode cX5_unlikeBills 50 = .ok (.getfield 58, 3) := by decide +kernel
theorem dX5_unlikeBills_53 : decode cX5_unlikeBills 53 = .ok (.iload_n 2, 1) := by decide +kernel
theorem dX5_unlikeBills_54 : decode cX5_unlikeBills 54 = .ok (.iaload, 1) := by decide +kernel
theorem dX5_unlikeBills_55 : decode cX5_unlikeBills 55 = .ok (.iconst (-1), 1) := by decide +kernel
theorem dX5_unlikeBills_56 : decode cX5_unlikeBills 56 = .ok (.if_icmp .eq 20, 3) := by decide +kernel
theorem dX5_unlikeBills_59 : decode cX5_unlikeBills 59 = .ok (.aload_n 0, 1) := by decide +kernel
theorem dX5_unlikeBills_60 : decode cX5_unlikeBills 60 = .ok (.iload_n 2, 1) := by decide +kernel
theorem dX5_unlikeBills_61 : decode cX5_unlikeBills 61 = .ok (.aload_n 0, 1) := by decide +kernel
theorem dX5_unlikeBills_62 : decode cX5_unlikeBills 62 = .ok (.getfield 58, 3) := by decide +kernel
theorem dX5_unlikeBills_65 : decode cX5_unlikeBills 65 = .ok (.iload_n 2, 1) := by decide +kernel
theorem dX5_unlikeBills_66 : decode cX5_unlikeBills 66 = .ok (.iaload, 1) := by decide +kernel
theorem dX5_unlikeBills_67 : decode cX5_unlikeBills 67 = .ok (.invokevirtual 175, 3) := by decide +kernel
theorem dX5_unlikeBills_70 : decode cX5_unlikeBills 70 = .ok (.ifCond .ne 6, 3) := by decide +kernel
theorem dX5_unlikeBills_73 : decode cX5_unlikeBills 73 = .ok (.iinc 1 1, 3) := by decide +kernel
theorem dX5_unlikeBills_76 : decode cX5_unlikeBills 76 = .ok (.iinc 2 1, 3) := by decide +kernel
theorem dX5_unlikeBills_79 : decode cX5_unlikeBills 79 = .ok (.goto (-75), 3) := by decide +kernel
theorem dX5_unlikeBills_82 : decode cX5_unlikeBills 82 = .ok (.iload_n 1, 1) := by decide +kernel
theorem dX5_unlikeBills_83 : decode cX5_unlikeBills 83 = .ok (.ireturn, 1) := by decide +kernel
theorem dX5_hasBillBefore_0 : decode cX5_hasBillBefore 0 = .ok (.iconst 0, 1) := by decide +kernel
theorem dX5_hasBillBefore_1 : decode cX5_hasBillBefore 1 = .ok (.istore_n 3, 1) := by decide +kernel
theorem dX5_hasBillBefore_2 : decode cX5_hasBillBefore 2 = .ok (.iload_n 3, 1) := by decide +kernel
theorem dX5_hasBillBefore_3 : decode cX5_hasBillBefore 3 = .ok (.iload_n 1, 1) := by decide +kernel
theorem dX5_hasBillBefore_4 : decode cX5_hasBillBefore 4 = .ok (.if_icmp .ge 27, 3) := by decide +kernel
theorem dX5_hasBillBefore_7 : decode cX5_hasBillBefore 7 = .ok (.iload_n 3, 1) := by decide +kernel
theorem dX5_hasBillBefore_8 : decode cX5_hasBillBefore 8 = .ok (.bipush 20, 2) := by decide +kernel
theorem dX5_hasBillBefore_10 : decode cX5_hasBillBefore 10 = .ok (.if_icmp .ge 21, 3) := by decide +kernel
theorem dX5_hasBillBefore_13 : decode cX5_hasBillBefore 13 = .ok (.aload_n 0, 1) := by decide +kernel
theorem dX5_hasBillBefore_14 : decode cX5_hasBillBefore 14 = .ok (.getfield 58, 3) := by decide +kernel
theorem dX5_hasBillBefore_17 : decode cX5_hasBillBefore 17 = .ok (.iload_n 3, 1) := by decide +kernel
theorem dX5_hasBillBefore_18 : decode cX5_hasBillBefore 18 = .ok (.iaload, 1) := by decide +kernel
theorem dX5_hasBillBefore_19 : decode cX5_hasBillBefore 19 = .ok (.iload_n 2, 1) := by decide +kernel
theorem dX5_hasBillBefore_20 : decode cX5_hasBillBefore 20 = .ok (.if_icmp .ne 5, 3) := by decide +kernel
theorem dX5_hasBillBefore_23 : decode cX5_hasBillBefore 23 = .ok (.iconst 1, 1) := by decide +kernel
theorem dX5_hasBillBefore_24 : decode cX5_hasBillBefore 24 = .ok (.ireturn, 1) := by decide +kernel
theorem dX5_hasBillBefore_25 : decode cX5_hasBillBefore 25 = .ok (.iinc 3 1, 3) := by decide +kernel
theorem dX5_hasBillBefore_28 : decode cX5_hasBillBefore 28 = .ok (.goto (-26), 3) := by decide +kernel
theorem dX5_hasBillBefore_31 : decode cX5_hasBillBefore 31 = .ok (.iconst 0, 1) := by decide +kernel
theorem dX5_hasBillBefore_32 : decode cX5_hasBillBefore 32 = .ok (.ireturn, 1) := by decide +kernel
theorem dX5_slipsThatPlay_0 : decode cX5_slipsThatPlay 0 = .ok (.iconst 0, 1) := by decide +kernel
theorem dX5_slipsThatPlay_1 : decode cX5_slipsThatPlay 1 = .ok (.istore_n 1, 1) := by decide +kernel
theorem dX5_slipsThatPlay_2 : decode cX5_slipsThatPlay 2 = .ok (.iconst 0, 1) := by decide +kernel
theorem dX5_slipsThatPlay_3 : decode cX5_slipsThatPlay 3 = .ok (.istore_n 2, 1) := by decide +kernel
theorem dX5_slipsThatPlay_4 : decode cX5_slipsThatPlay 4 = .ok (.iload_n 2, 1) := by decide +kernel
theorem dX5_slipsThatPlay_5 : decode cX5_slipsThatPlay 5 = .ok (.bipush 20, 2) := by decide +kernel
theorem dX5_slipsThatPlay_7 : decode cX5_slipsThatPlay 7 = .ok (.if_icmp .ge 31, 3) := by decide +kernel
theorem dX5_slipsThatPlay_10 : decode cX5_slipsThatPlay 10 = .ok (.aload_n 0, 1) := by decide +kernel
theorem dX5_slipsThatPlay_11 : decode cX5_slipsThatPlay 11 = .ok (.getfield 44, 3) := by decide +kernel
theorem dX5_slipsThatPlay_14 : decode cX5_slipsThatPlay 14 = .ok (.aload_n 0, 1) := by decide +kernel
theorem dX5_slipsThatPlay_15 : decode cX5_slipsThatPlay 15 = .ok (.getfield 10, 3) := by decide +kernel
theorem dX5_slipsThatPlay_18 : decode cX5_slipsThatPlay 18 = .ok (.iload_n 2, 1) := by decide +kernel
theorem dX5_slipsThatPlay_19 : decode cX5_slipsThatPlay 19 = .ok (.invokevirtual 165, 3) := by decide +kernel
theorem dX5_slipsThatPlay_22 : decode cX5_slipsThatPlay 22 = .ok (.iload_n 1, 1) := by decide +kernel
theorem dX5_slipsThatPlay_23 : decode cX5_slipsThatPlay 23 = .ok (.aload_n 0, 1) := by decide +kernel
theorem dX5_slipsThatPlay_24 : decode cX5_slipsThatPlay 24 = .ok (.getfield 44, 3) := by decide +kernel
theorem dX5_slipsThatPlay_27 : decode cX5_slipsThatPlay 27 = .ok (.invokevirtual 178, 3) := by decide +kernel
theorem dX5_slipsThatPlay_30 : decode cX5_slipsThatPlay 30 = .ok (.iadd, 1) := by decide +kernel
theorem dX5_slipsThatPlay_31 : decode cX5_slipsThatPlay 31 = .ok (.istore_n 1, 1) := by decide +kernel
theorem dX5_slipsThatPlay_32 : decode cX5_slipsThatPlay 32 = .ok (.iinc 2 1, 3) := by decide +kernel
theorem dX5_slipsThatPlay_35 : decode cX5_slipsThatPlay 35 = .ok (.goto (-31), 3) := by decide +kernel
theorem dX5_slipsThatPlay_38 : decode cX5_slipsThatPlay 38 = .ok (.iload_n 1, 1) := by decide +kernel
theorem dX5_slipsThatPlay_39 : decode cX5_slipsThatPlay 39 = .ok (.ireturn, 1) := by decide +kernel
theorem dX5_played_0 : decode cX5_played 0 = .ok (.iload_n 1, 1) := by decide +kernel
theorem dX5_played_1 : decode cX5_played 1 = .ok (.invokestatic 181, 3) := by decide +kernel
theorem dX5_played_4 : decode cX5_played 4 = .ok (.aload_n 0, 1) := by decide +kernel
theorem dX5_played_5 : decode cX5_played 5 = .ok (.iload_n 2, 1) := by decide +kernel
theorem dX5_played_6 : decode cX5_played 6 = .ok (.invokevirtual 184, 3) := by decide +kernel
theorem dX5_played_9 : decode cX5_played 9 = .ok (.aload_n 0, 1) := by decide +kernel
theorem dX5_played_10 : decode cX5_played 10 = .ok (.getfield 44, 3) := by decide +kernel
theorem dX5_played_13 : decode cX5_played 13 = .ok (.aload_n 0, 1) := by decide +kernel
theorem dX5_played_14 : decode cX5_played 14 = .ok (.getfield 10, 3) := by decide +kernel
theorem dX5_played_17 : decode cX5_played 17 = .ok (.iload_n 1, 1) := by decide +kernel
theorem dX5_played_18 : decode cX5_played 18 = .ok (.invokevirtual 165, 3) := by decide +kernel
theorem dX5_played_21 : decode cX5_played 21 = .ok (.aload_n 0, 1) := by decide +kernel
theorem dX5_played_22 : decode cX5_played 22 = .ok (.getfield 44, 3) := by decide +kernel
theorem dX5_played_25 : decode cX5_played 25 = .ok (.iload_n 2, 1) := by decide +kernel
theorem dX5_played_26 : decode cX5_played 26 = .ok (.invokevirtual 187, 3) := by decide +kernel
theorem dX5_played_29 : decode cX5_played 29 = .ok (.ireturn, 1) := by decide +kernel
theorem dX5_bill_0 : decode cX5_bill 0 = .ok (.iload_n 1, 1) := by decide +kernel
theorem dX5_bill_1 : decode cX5_bill 1 = .ok (.invokestatic 181, 3) := by decide +kernel
theorem dX5_bill_4 : decode cX5_bill 4 = .ok (.aload_n 0, 1) := by decide +kernel
theorem dX5_bill_5 : decode cX5_bill 5 = .ok (.iload_n 2, 1) := by decide +kernel
theorem dX5_bill_6 : decode cX5_bill 6 = .ok (.invokevirtual 184, 3) := by decide +kernel
theorem dX5_bill_9 : decode cX5_bill 9 = .ok (.aload_n 0, 1) := by decide +kernel
theorem dX5_bill_10 : decode cX5_bill 10 = .ok (.getfield 44, 3) := by decide +kernel
theorem dX5_bill_13 : decode cX5_bill 13 = .ok (.aload_n 0, 1) := by decide +kernel
theorem dX5_bill_14 : decode cX5_bill 14 = .ok (.getfield 10, 3) := by decide +kernel
theorem dX5_bill_17 : decode cX5_bill 17 = .ok (.iload_n 1, 1) := by decide +kernel
theorem dX5_bill_18 : decode cX5_bill 18 = .ok (.invokevirtual 165, 3) := by decide +kernel
theorem dX5_bill_21 : decode cX5_bill 21 = .ok (.iload_n 3, 1) := by decide +kernel
theorem dX5_bill_22 : decode cX5_bill 22 = .ok (.tableswitch 68 0 3 #[30, 40, 49, 58], 30) := by decide +kernel
theorem dX5_bill_52 : decode cX5_bill 52 = .ok (.aload_n 0, 1) := by decide +kernel
theorem dX5_bill_53 : decode cX5_bill 53 = .ok (.getfield 10, 3) := by decide +kernel
theorem dX5_bill_56 : decode cX5_bill 56 = .ok (.iload_n 2, 1) := by decide +kernel
theorem dX5_bill_57 : decode cX5_bill 57 = .ok (.iload_n 1, 1) := by decide +kernel
theorem dX5_bill_58 : decode cX5_bill 58 = .ok (.invokevirtual 190, 3) := by decide +kernel
theorem dX5_bill_61 : decode cX5_bill 61 = .ok (.ireturn, 1) := by decide +kernel
theorem dX5_bill_62 : decode cX5_bill 62 = .ok (.aload_n 0, 1) := by decide +kernel
theorem dX5_bill_63 : decode cX5_bill 63 = .ok (.getfield 44, 3) := by decide +kernel
theorem dX5_bill_66 : decode cX5_bill 66 = .ok (.iload_n 2, 1) := by decide +kernel
theorem dX5_bill_67 : decode cX5_bill 67 = .ok (.invokevirtual 194, 3) := by decide +kernel
theorem dX5_bill_70 : decode cX5_bill 70 = .ok (.ireturn, 1) := by decide +kernel
theorem dX5_bill_71 : decode cX5_bill 71 = .ok (.aload_n 0, 1) := by decide +kernel
theorem dX5_bill_72 : decode cX5_bill 72 = .ok (.getfield 44, 3) := by decide +kernel
theorem dX5_bill_75 : decode cX5_bill 75 = .ok (.iload_n 2, 1) := by decide +kernel
theorem dX5_bill_76 : decode cX5_bill 76 = .ok (.invokevirtual 197, 3) := by decide +kernel
theorem dX5_bill_79 : decode cX5_bill 79 = .ok (.ireturn, 1) := by decide +kernel
theorem dX5_bill_80 : decode cX5_bill 80 = .ok (.aload_n 0, 1) := by decide +kernel
theorem dX5_bill_81 : decode cX5_bill 81 = .ok (.getfield 10, 3) := by decide +kernel
theorem dX5_bill_84 : decode cX5_bill 84 = .ok (.iload_n 1, 1) := by decide +kernel
theorem dX5_bill_85 : decode cX5_bill 85 = .ok (.iload_n 2, 1) := by decide +kernel
theorem dX5_bill_86 : decode cX5_bill 86 = .ok (.invokevirtual 200, 3) := by decide +kernel
theorem dX5_bill_89 : decode cX5_bill 89 = .ok (.ireturn, 1) := by decide +kernel
theorem dX5_bill_90 : decode cX5_bill 90 = .ok (.new 61, 3) := by decide +kernel
theorem dX5_bill_93 : decode cX5_bill 93 = .ok (.dup, 1) := by decide +kernel
theorem dX5_bill_94 : decode cX5_bill 94 = .ok (.ldc 203, 2) := by decide +kernel
theorem dX5_bill_96 : decode cX5_bill 96 = .ok (.invokespecial 65, 3) := by decide +kernel
theorem dX5_bill_99 : decode cX5_bill 99 = .ok (.athrow, 1) := by decide +kernel
theorem dX5_night_0 : decode cX5_night 0 = .ok (.iload_n 1, 1) := by decide +kernel
theorem dX5_night_1 : decode cX5_night 1 = .ok (.invokestatic 181, 3) := by decide +kernel
theorem dX5_night_4 : decode cX5_night 4 = .ok (.aload_n 0, 1) := by decide +kernel
theorem dX5_night_5 : decode cX5_night 5 = .ok (.getfield 44, 3) := by decide +kernel
theorem dX5_night_8 : decode cX5_night 8 = .ok (.aload_n 0, 1) := by decide +kernel
theorem dX5_night_9 : decode cX5_night 9 = .ok (.getfield 10, 3) := by decide +kernel
theorem dX5_night_12 : decode cX5_night 12 = .ok (.iload_n 1, 1) := by decide +kernel
theorem dX5_night_13 : decode cX5_night 13 = .ok (.invokevirtual 165, 3) := by decide +kernel
theorem dX5_night_16 : decode cX5_night 16 = .ok (.iload_n 2, 1) := by decide +kernel
theorem dX5_night_17 : decode cX5_night 17 = .ok (.tableswitch 82 0 4 #[35, 51, 59, 68, 76], 35) := by decide +kernel
theorem dX5_night_52 : decode cX5_night 52 = .ok (.aload_n 0, 1) := by decide +kernel
theorem dX5_night_53 : decode cX5_night 53 = .ok (.getfield 44, 3) := by decide +kernel
theorem dX5_night_56 : decode cX5_night 56 = .ok (.invokevirtual 169, 3) := by decide +kernel
theorem dX5_night_59 : decode cX5_night 59 = .ok (.ifCond .eq 7, 3) := by decide +kernel
theorem dX5_night_62 : decode cX5_night 62 = .ok (.iconst 1, 1) := by decide +kernel
theorem dX5_night_63 : decode cX5_night 63 = .ok (.goto 4, 3) := by decide +kernel
theorem dX5_night_66 : decode cX5_night 66 = .ok (.iconst 0, 1) := by decide +kernel
theorem dX5_night_67 : decode cX5_night 67 = .ok (.ireturn, 1) := by decide +kernel
theorem dX5_night_68 : decode cX5_night 68 = .ok (.aload_n 0, 1) := by decide +kernel
theorem dX5_night_69 : decode cX5_night 69 = .ok (.getfield 44, 3) := by decide +kernel
theorem dX5_night_72 : decode cX5_night 72 = .ok (.invokevirtual 205, 3) := by decide +kernel
theorem dX5_night_75 : decode cX5_night 75 = .ok (.ireturn, 1) := by decide +kernel
theorem dX5_night_76 : decode cX5_night 76 = .ok (.aload_n 0, 1) := by decide +kernel
theorem dX5_night_77 : decode cX5_night 77 = .ok (.getfield 10, 3) := by decide +kernel
theorem dX5_night_80 : decode cX5_night 80 = .ok (.iload_n 1, 1) := by decide +kernel
theorem dX5_night_81 : decode cX5_night 81 = .ok (.invokevirtual 206, 3) := by decide +kernel
theorem dX5_night_84 : decode cX5_night 84 = .ok (.ireturn, 1) := by decide +kernel
theorem dX5_night_85 : decode cX5_night 85 = .ok (.aload_n 0, 1) := by decide +kernel
theorem dX5_night_86 : decode cX5_night 86 = .ok (.getfield 44, 3) := by decide +kernel
theorem dX5_night_89 : decode cX5_night 89 = .ok (.invokevirtual 209, 3) := by decide +kernel
theorem dX5_night_92 : decode cX5_night 92 = .ok (.ireturn, 1) := by decide +kernel
theorem dX5_night_93 : decode cX5_night 93 = .ok (.aload_n 0, 1) := by decide +kernel
theorem dX5_night_94 : decode cX5_night 94 = .ok (.iload_n 1, 1) := by decide +kernel
theorem dX5_night_95 : decode cX5_night 95 = .ok (.invokevirtual 212, 3) := by decide +kernel
theorem dX5_night_98 : decode cX5_night 98 = .ok (.ireturn, 1) := by decide +kernel
theorem dX5_night_99 : decode cX5_night 99 = .ok (.new 61, 3) := by decide +kernel
theorem dX5_night_102 : decode cX5_night 102 = .ok (.dup, 1) := by decide +kernel
theorem dX5_night_103 : decode cX5_night 103 = .ok (.ldc 215, 2) := by decide +kernel
theorem dX5_night_105 : decode cX5_night 105 = .ok (.invokespecial 65, 3) := by decide +kernel
theorem dX5_night_108 : decode cX5_night 108 = .ok (.athrow, 1) := by decide +kernel
theorem dX5_partsOfOthers_0 : decode cX5_partsOfOthers 0 = .ok (.iconst 0, 1) := by decide +kernel
theorem dX5_partsOfOthers_1 : decode cX5_partsOfOthers 1 = .ok (.istore_n 2, 1) := by decide +kernel
theorem dX5_partsOfOthers_2 : decode cX5_partsOfOthers 2 = .ok (.iconst 0, 1) := by decide +kernel
theorem dX5_partsOfOthers_3 : decode cX5_partsOfOthers 3 = .ok (.istore_n 3, 1) := by decide +kernel
theorem dX5_partsOfOthers_4 : decode cX5_partsOfOthers 4 = .ok (.iload_n 3, 1) := by decide +kernel
theorem dX5_partsOfOthers_5 : decode cX5_partsOfOthers 5 = .ok (.aload_n 0, 1) := by decide +kernel
theorem dX5_partsOfOthers_6 : decode cX5_partsOfOthers 6 = .ok (.getfield 10, 3) := by decide +kernel
theorem dX5_partsOfOthers_9 : decode cX5_partsOfOthers 9 = .ok (.invokevirtual 138, 3) := by decide +kernel
theorem dX5_partsOfOthers_12 : decode cX5_partsOfOthers 12 = .ok (.if_icmp .ge 42, 3) := by decide +kernel
theorem dX5_partsOfOthers_15 : decode cX5_partsOfOthers 15 = .ok (.aload_n 0, 1) := by decide +kernel
theorem dX5_partsOfOthers_16 : decode cX5_partsOfOthers 16 = .ok (.getfield 44, 3) := by decide +kernel
theorem dX5_partsOfOthers_19 : decode cX5_partsOfOthers 19 = .ok (.invokevirtual 169, 3) := by decide +kernel
theorem dX5_partsOfOthers_22 : decode cX5_partsOfOthers 22 = .ok (.ifCond .ne 26, 3) := by decide +kernel
theorem dX5_partsOfOthers_25 : decode cX5_partsOfOthers 25 = .ok (.aload_n 0, 1) := by decide +kernel
theorem dX5_partsOfOthers_26 : decode cX5_partsOfOthers 26 = .ok (.getfield 44, 3) := by decide +kernel
theorem dX5_partsOfOthers_29 : decode cX5_partsOfOthers 29 = .ok (.iload_n 3, 1) := by decide +kernel
theorem dX5_partsOfOthers_30 : decode cX5_partsOfOthers 30 = .ok (.invokevirtual 187, 3) := by decide +kernel
theorem dX5_partsOfOthers_33 : decode cX5_partsOfOthers 33 = .ok (.aload_n 0, 1) := by decide +kernel
theorem dX5_partsOfOthers_34 : decode cX5_partsOfOthers 34 = .ok (.getfield 10, 3) := by decide +kernel
theorem dX5_partsOfOthers_37 : decode cX5_partsOfOthers 37 = .ok (.iload_n 3, 1) := by decide +kernel
theorem dX5_partsOfOthers_38 : decode cX5_partsOfOthers 38 = .ok (.iload_n 1, 1) := by decide +kernel
theorem dX5_partsOfOthers_39 : decode cX5_partsOfOthers 39 = .ok (.invokevirtual 190, 3) := by decide +kernel
theorem dX5_partsOfOthers_42 : decode cX5_partsOfOthers 42 = .ok (.if_icmp .eq 6, 3) := by decide +kernel
theorem dX5_partsOfOthers_45 : decode cX5_partsOfOthers 45 = .ok (.iinc 2 1, 3) := by decide +kernel
theorem dX5_partsOfOthers_48 : decode cX5_partsOfOthers 48 = .ok (.iinc 3 1, 3) := by decide +kernel
theorem dX5_partsOfOthers_51 : decode cX5_partsOfOthers 51 = .ok (.goto (-47), 3) := by decide +kernel
theorem dX5_partsOfOthers_54 : decode cX5_partsOfOthers 54 = .ok (.iload_n 2, 1) := by decide +kernel
theorem dX5_partsOfOthers_55 : decode cX5_partsOfOthers 55 = .ok (.ireturn, 1) := by decide +kernel
theorem dX5_actor_0 : decode cX5_actor 0 = .ok (.aload_n 0, 1) := by decide +kernel
theorem dX5_actor_1 : decode cX5_actor 1 = .ok (.iload_n 1, 1) := by decide +kernel
theorem dX5_actor_2 : decode cX5_actor 2 = .ok (.invokevirtual 217, 3) := by decide +kernel
theorem dX5_actor_5 : decode cX5_actor 5 = .ok (.iload_n 2, 1) := by decide +kernel
theorem dX5_actor_6 : decode cX5_actor 6 = .ok (.tableswitch 89 0 5 #[38, 47, 56, 65, 74, 80], 38) := by decide +kernel
theorem dX5_actor_44 : decode cX5_actor 44 = .ok (.aload_n 0, 1) := by decide +kernel
theorem dX5_actor_45 : decode cX5_actor 45 = .ok (.getfield 10, 3) := by decide +kernel
theorem dX5_actor_48 : decode cX5_actor 48 = .ok (.iload_n 1, 1) := by decide +kernel
theorem dX5_actor_49 : decode cX5_actor 49 = .ok (.invokevirtual 220, 3) := by decide +kernel
theorem dX5_actor_52 : decode cX5_actor 52 = .ok (.ireturn, 1) := by decide +kernel
theorem dX5_actor_53 : decode cX5_actor 53 = .ok (.aload_n 0, 1) := by decide +kernel
theorem dX5_actor_54 : decode cX5_actor 54 = .ok (.iload_n 1, 1) := by decide +kernel
theorem dX5_actor_55 : decode cX5_actor 55 = .ok (.invokevirtual 223, 3) := by decide +kernel
theorem dX5_actor_58 : decode cX5_actor 58 = .ok (.invokestatic 226, 3) := by decide +kernel
theorem dX5_actor_61 : decode cX5_actor 61 = .ok (.ireturn, 1) := by decide +kernel
theorem dX5_actor_62 : decode cX5_actor 62 = .ok (.aload_n 0, 1) := by decide +kernel
theorem dX5_actor_63 : decode cX5_actor 63 = .ok (.iload_n 1, 1) := by decide +kernel
theorem dX5_actor_64 : decode cX5_actor 64 = .ok (.invokevirtual 223, 3) := by decide +kernel
theorem dX5_actor_67 : decode cX5_actor 67 = .ok (.invokestatic 231, 3) := by decide +kernel
theorem dX5_actor_70 : decode cX5_actor 70 = .ok (.ireturn, 1) := by decide +kernel
theorem dX5_actor_71 : decode cX5_actor 71 = .ok (.aload_n 0, 1) := by decide +kernel
theorem dX5_actor_72 : decode cX5_actor 72 = .ok (.iload_n 1, 1) := by decide +kernel
theorem dX5_actor_73 : decode cX5_actor 73 = .ok (.invokevirtual 223, 3) := by decide +kernel
theorem dX5_actor_76 : decode cX5_actor 76 = .ok (.invokestatic 234, 3) := by decide +kernel
theorem dX5_actor_79 : decode cX5_actor 79 = .ok (.ireturn, 1) := by decide +kernel
theorem dX5_actor_80 : decode cX5_actor 80 = .ok (.aload_n 0, 1) := by decide +kernel
theorem dX5_actor_81 : decode cX5_actor 81 = .ok (.iload_n 1, 1) := by decide +kernel
theorem dX5_actor_82 : decode cX5_actor 82 = .ok (.invokevirtual 237, 3) := by decide +kernel
theorem dX5_actor_85 : decode cX5_actor 85 = .ok (.ireturn, 1) := by decide +kernel
theorem dX5_actor_86 : decode cX5_actor 86 = .ok (.aload_n 0, 1) := by decide +kernel
theorem dX5_actor_87 : decode cX5_actor 87 = .ok (.getfield 10, 3) := by decide +kernel
theorem dX5_actor_90 : decode cX5_actor 90 = .ok (.iload_n 1, 1) := by decide +kernel
theorem dX5_actor_91 : decode cX5_actor 91 = .ok (.invokevirtual 240, 3) := by decide +kernel
theorem dX5_actor_94 : decode cX5_actor 94 = .ok (.ireturn, 1) := by decide +kernel
theorem dX5_actor_95 : decode cX5_actor 95 = .ok (.new 61, 3) := by decide +kernel
theorem dX5_actor_98 : decode cX5_actor 98 = .ok (.dup, 1) := by decide +kernel
theorem dX5_actor_99 : decode cX5_actor 99 = .ok (.ldc 243, 2) := by decide +kernel
theorem dX5_actor_101 : decode cX5_actor 101 = .ok (.invokespecial 65, 3) := by decide +kernel
theorem dX5_actor_104 : decode cX5_actor 104 = .ok (.athrow, 1) := by decide +kernel
theorem dX5_nightsOf_0 : decode cX5_nightsOf 0 = .ok (.iconst 0, 1) := by decide +kernel
theorem dX5_nightsOf_1 : decode cX5_nightsOf 1 = .ok (.istore_n 2, 1) := by decide +kernel
theorem dX5_nightsOf_2 : decode cX5_nightsOf 2 = .ok (.iconst 0, 1) := by decide +kernel
theorem dX5_nightsOf_3 : decode cX5_nightsOf 3 = .ok (.istore_n 3, 1) := by decide +kernel
theorem dX5_nightsOf_4 : decode cX5_nightsOf 4 = .ok (.iload_n 3, 1) := by decide +kernel
theorem dX5_nightsOf_5 : decode cX5_nightsOf 5 = .ok (.bipush 20, 2) := by decide +kernel
theorem dX5_nightsOf_7 : decode cX5_nightsOf 7 = .ok (.if_icmp .ge 41, 3) := by decide +kernel
theorem dX5_nightsOf_10 : decode cX5_nightsOf 10 = .ok (.aload_n 0, 1) := by decide +kernel
theorem dX5_nightsOf_11 : decode cX5_nightsOf 11 = .ok (.getfield 44, 3) := by decide +kernel
theorem dX5_nightsOf_14 : decode cX5_nightsOf 14 = .ok (.aload_n 0, 1) := by decide +kernel
theorem dX5_nightsOf_15 : decode cX5_nightsOf 15 = .ok (.getfield 10, 3) := by decide +kernel
theorem dX5_nightsOf_18 : decode cX5_nightsOf 18 = .ok (.iload_n 3, 1) := by decide +kernel
theorem dX5_nightsOf_19 : decode cX5_nightsOf 19 = .ok (.invokevirtual 165, 3) := by decide +kernel
theorem dX5_nightsOf_22 : decode cX5_nightsOf 22 = .ok (.aload_n 0, 1) := by decide +kernel
theorem dX5_nightsOf_23 : decode cX5_nightsOf 23 = .ok (.getfield 44, 3) := by decide +kernel
theorem dX5_nightsOf_26 : decode cX5_nightsOf 26 = .ok (.invokevirtual 209, 3) := by decide +kernel
theorem dX5_nightsOf_29 : decode cX5_nightsOf 29 = .ok (.iload_n 1, 1) := by decide +kernel
theorem dX5_nightsOf_30 : decode cX5_nightsOf 30 = .ok (.invokestatic 245, 3) := by decide +kernel
theorem dX5_nightsOf_33 : decode cX5_nightsOf 33 = .ok (.ifCond .eq 9, 3) := by decide +kernel
theorem dX5_nightsOf_36 : decode cX5_nightsOf 36 = .ok (.iload_n 2, 1) := by decide +kernel
theorem dX5_nightsOf_37 : decode cX5_nightsOf 37 = .ok (.iconst 1, 1) := by decide +kernel
theorem dX5_nightsOf_38 : decode cX5_nightsOf 38 = .ok (.iload_n 3, 1) := by decide +kernel
theorem dX5_nightsOf_39 : decode cX5_nightsOf 39 = .ok (.ishl, 1) := by decide +kernel
theorem dX5_nightsOf_40 : decode cX5_nightsOf 40 = .ok (.ior, 1) := by decide +kernel
theorem dX5_nightsOf_41 : decode cX5_nightsOf 41 = .ok (.istore_n 2, 1) := by decide +kernel
theorem dX5_nightsOf_42 : decode cX5_nightsOf 42 = .ok (.iinc 3 1, 3) := by decide +kernel
theorem dX5_nightsOf_45 : decode cX5_nightsOf 45 = .ok (.goto (-41), 3) := by decide +kernel
theorem dX5_nightsOf_48 : decode cX5_nightsOf 48 = .ok (.iload_n 2, 1) := by decide +kernel
theorem dX5_nightsOf_49 : decode cX5_nightsOf 49 = .ok (.ireturn, 1) := by decide +kernel
theorem dX5_nightsOfPart_0 : decode cX5_nightsOfPart 0 = .ok (.iconst 0, 1) := by decide +kernel
theorem dX5_nightsOfPart_1 : decode cX5_nightsOfPart 1 = .ok (.istore_n 3, 1) := by decide +kernel
theorem dX5_nightsOfPart_2 : decode cX5_nightsOfPart 2 = .ok (.iconst 0, 1) := by decide +kernel
theorem dX5_nightsOfPart_3 : decode cX5_nightsOfPart 3 = .ok (.istore 4, 2) := by decide +kernel
theorem dX5_nightsOfPart_5 : decode cX5_nightsOfPart 5 = .ok (.iload 4, 2) := by decide +kernel
theorem dX5_nightsOfPart_7 : decode cX5_nightsOfPart 7 = .ok (.bipush 20, 2) := by decide +kernel
theorem dX5_nightsOfPart_9 : decode cX5_nightsOfPart 9 = .ok (.if_icmp .ge 41, 3) := by decide +kernel
theorem dX5_nightsOfPart_12 : decode cX5_nightsOfPart 12 = .ok (.aload_n 0, 1) := by decide +kernel
theorem dX5_nightsOfPart_13 : decode cX5_nightsOfPart 13 = .ok (.getfield 44, 3) := by decide +kernel
theorem dX5_nightsOfPart_16 : decode cX5_nightsOfPart 16 = .ok (.aload_n 0, 1) := by decide +kernel
theorem dX5_nightsOfPart_17 : decode cX5_nightsOfPart 17 = .ok (.getfield 10, 3) := by decide +kernel
theorem dX5_nightsOfPart_20 : decode cX5_nightsOfPart 20 = .ok (.iload 4, 2) := by decide +kernel
theorem dX5_nightsOfPart_22 : decode cX5_nightsOfPart 22 = .ok (.invokevirtual 165, 3) := by decide +kernel
theorem dX5_nightsOfPart_25 : decode cX5_nightsOfPart 25 = .ok (.aload_n 0, 1) := by decide +kernel
theorem dX5_nightsOfPart_26 : decode cX5_nightsOfPart 26 = .ok (.getfield 44, 3) := by decide +kernel
theorem dX5_nightsOfPart_29 : decode cX5_nightsOfPart 29 = .ok (.iload_n 1, 1) := by decide +kernel
theorem dX5_nightsOfPart_30 : decode cX5_nightsOfPart 30 = .ok (.invokevirtual 187, 3) := by decide +kernel
theorem dX5_nightsOfPart_33 : decode cX5_nightsOfPart 33 = .ok (.iload_n 2, 1) := by decide +kernel
theorem dX5_nightsOfPart_34 : decode cX5_nightsOfPart 34 = .ok (.if_icmp .ne 10, 3) := by decide +kernel
theorem dX5_nightsOfPart_37 : decode cX5_nightsOfPart 37 = .ok (.iload_n 3, 1) := by decide +kernel
theorem dX5_nightsOfPart_38 : decode cX5_nightsOfPart 38 = .ok (.iconst 1, 1) := by decide +kernel
theorem dX5_nightsOfPart_39 : decode cX5_nightsOfPart 39 = .ok (.iload 4, 2) := by decide +kernel
theorem dX5_nightsOfPart_41 : decode cX5_nightsOfPart 41 = .ok (.ishl, 1) := by decide +kernel
theorem dX5_nightsOfPart_42 : decode cX5_nightsOfPart 42 = .ok (.ior, 1) := by decide +kernel
theorem dX5_nightsOfPart_43 : decode cX5_nightsOfPart 43 = .ok (.istore_n 3, 1) := by decide +kernel
theorem dX5_nightsOfPart_44 : decode cX5_nightsOfPart 44 = .ok (.iinc 4 1, 3) := by decide +kernel
theorem dX5_nightsOfPart_47 : decode cX5_nightsOfPart 47 = .ok (.goto (-42), 3) := by decide +kernel
theorem dX5_nightsOfPart_50 : decode cX5_nightsOfPart 50 = .ok (.iload_n 3, 1) := by decide +kernel
theorem dX5_nightsOfPart_51 : decode cX5_nightsOfPart 51 = .ok (.ireturn, 1) := by decide +kernel
theorem dX5_partsOf_0 : decode cX5_partsOf 0 = .ok (.iconst 0, 1) := by decide +kernel
theorem dX5_partsOf_1 : decode cX5_partsOf 1 = .ok (.istore_n 2, 1) := by decide +kernel
theorem dX5_partsOf_2 : decode cX5_partsOf 2 = .ok (.iconst 0, 1) := by decide +kernel
theorem dX5_partsOf_3 : decode cX5_partsOf 3 = .ok (.istore_n 3, 1) := by decide +kernel
theorem dX5_partsOf_4 : decode cX5_partsOf 4 = .ok (.iload_n 3, 1) := by decide +kernel
theorem dX5_partsOf_5 : decode cX5_partsOf 5 = .ok (.bipush 20, 2) := by decide +kernel
theorem dX5_partsOf_7 : decode cX5_partsOf 7 = .ok (.if_icmp .ge 62, 3) := by decide +kernel
theorem dX5_partsOf_10 : decode cX5_partsOf 10 = .ok (.aload_n 0, 1) := by decide +kernel
theorem dX5_partsOf_11 : decode cX5_partsOf 11 = .ok (.getfield 44, 3) := by decide +kernel
theorem dX5_partsOf_14 : decode cX5_partsOf 14 = .ok (.aload_n 0, 1) := by decide +kernel
theorem dX5_partsOf_15 : decode cX5_partsOf 15 = .ok (.getfield 10, 3) := by decide +kernel
theorem dX5_partsOf_18 : decode cX5_partsOf 18 = .ok (.iload_n 3, 1) := by decide +kernel
theorem dX5_partsOf_19 : decode cX5_partsOf 19 = .ok (.invokevirtual 165, 3) := by decide +kernel
theorem dX5_partsOf_22 : decode cX5_partsOf 22 = .ok (.iconst 0, 1) := by decide +kernel
theorem dX5_partsOf_23 : decode cX5_partsOf 23 = .ok (.istore 4, 2) := by decide +kernel
theorem dX5_partsOf_25 : decode cX5_partsOf 25 = .ok (.iload 4, 2) := by decide +kernel
theorem dX5_partsOf_27 : decode cX5_partsOf 27 = .ok (.aload_n 0, 1) := by decide +kernel
theorem dX5_partsOf_28 : decode cX5_partsOf 28 = .ok (.getfield 10, 3) := by decide +kernel
theorem dX5_partsOf_31 : decode cX5_partsOf 31 = .ok (.invokevirtual 138, 3) := by decide +kernel
theorem dX5_partsOf_34 : decode cX5_partsOf 34 = .ok (.if_icmp .ge 29, 3) := by decide +kernel
theorem dX5_partsOf_37 : decode cX5_partsOf 37 = .ok (.aload_n 0, 1) := by decide +kernel
theorem dX5_partsOf_38 : decode cX5_partsOf 38 = .ok (.getfield 44, 3) := by decide +kernel
theorem dX5_partsOf_41 : decode cX5_partsOf 41 = .ok (.iload 4, 2) := by decide +kernel
theorem dX5_partsOf_43 : decode cX5_partsOf 43 = .ok (.invokevirtual 187, 3) := by decide +kernel
theorem dX5_partsOf_46 : decode cX5_partsOf 46 = .ok (.iload_n 1, 1) := by decide +kernel
theorem dX5_partsOf_47 : decode cX5_partsOf 47 = .ok (.if_icmp .ne 10, 3) := by decide +kernel
theorem dX5_partsOf_50 : decode cX5_partsOf 50 = .ok (.iload_n 2, 1) := by decide +kernel
theorem dX5_partsOf_51 : decode cX5_partsOf 51 = .ok (.iconst 1, 1) := by decide +kernel
theorem dX5_partsOf_52 : decode cX5_partsOf 52 = .ok (.iload 4, 2) := by decide +kernel
theorem dX5_partsOf_54 : decode cX5_partsOf 54 = .ok (.ishl, 1) := by decide +kernel
theorem dX5_partsOf_55 : decode cX5_partsOf 55 = .ok (.ior, 1) := by decide +kernel
theorem dX5_partsOf_56 : decode cX5_partsOf 56 = .ok (.istore_n 2, 1) := by decide +kernel
theorem dX5_partsOf_57 : decode cX5_partsOf 57 = .ok (.iinc 4 1, 3) := by decide +kernel
theorem dX5_partsOf_60 : decode cX5_partsOf 60 = .ok (.goto (-35), 3) := by decide +kernel
theorem dX5_partsOf_63 : decode cX5_partsOf 63 = .ok (.iinc 3 1, 3) := by decide +kernel
theorem dX5_partsOf_66 : decode cX5_partsOf 66 = .ok (.goto (-62), 3) := by decide +kernel
theorem dX5_partsOf_69 : decode cX5_partsOf 69 = .ok (.iload_n 2, 1) := by decide +kernel
theorem dX5_partsOf_70 : decode cX5_partsOf 70 = .ok (.ireturn, 1) := by decide +kernel
theorem dX5_firstNight_0 : decode cX5_firstNight 0 = .ok (.iconst 0, 1) := by decide +kernel
theorem dX5_firstNight_1 : decode cX5_firstNight 1 = .ok (.istore_n 1, 1) := by decide +kernel
theorem dX5_firstNight_2 : decode cX5_firstNight 2 = .ok (.iload_n 1, 1) := by decide +kernel
theorem dX5_firstNight_3 : decode cX5_firstNight 3 = .ok (.bipush 20, 2) := by decide +kernel
theorem dX5_firstNight_5 : decode cX5_firstNight 5 = .ok (.if_icmp .ge 19, 3) := by decide +kernel
theorem dX5_firstNight_8 : decode cX5_firstNight 8 = .ok (.iload_n 0, 1) := by decide +kernel
theorem dX5_firstNight_9 : decode cX5_firstNight 9 = .ok (.iload_n 1, 1) := by decide +kernel
theorem dX5_firstNight_10 : decode cX5_firstNight 10 = .ok (.invokestatic 245, 3) := by decide +kernel
theorem dX5_firstNight_13 : decode cX5_firstNight 13 = .ok (.ifCond .eq 5, 3) := by decide +kernel
theorem dX5_firstNight_16 : decode cX5_firstNight 16 = .ok (.iload_n 1, 1) := by decide +kernel
theorem dX5_firstNight_17 : decode cX5_firstNight 17 = .ok (.ireturn, 1) := by decide +kernel
theorem dX5_firstNight_18 : decode cX5_firstNight 18 = .ok (.iinc 1 1, 3) := by decide +kernel
theorem dX5_firstNight_21 : decode cX5_firstNight 21 = .ok (.goto (-19), 3) := by decide +kernel
theorem dX5_firstNight_24 : decode cX5_firstNight 24 = .ok (.iconst (-1), 1) := by decide +kernel
theorem dX5_firstNight_25 : decode cX5_firstNight 25 = .ok (.ireturn, 1) := by decide +kernel
theorem dX5_lastNight_0 : decode cX5_lastNight 0 = .ok (.bipush 19, 2) := by decide +kernel
theorem dX5_lastNight_2 : decode cX5_lastNight 2 = .ok (.istore_n 1, 1) := by decide +kernel
theorem dX5_lastNight_3 : decode cX5_lastNight 3 = .ok (.iload_n 1, 1) := by decide +kernel
theorem dX5_lastNight_4 : decode cX5_lastNight 4 = .ok (.ifCond .lt 19, 3) := by decide +kernel
theorem dX5_lastNight_7 : decode cX5_lastNight 7 = .ok (.iload_n 0, 1) := by decide +kernel
theorem dX5_lastNight_8 : decode cX5_lastNight 8 = .ok (.iload_n 1, 1) := by decide +kernel
theorem dX5_lastNight_9 : decode cX5_lastNight 9 = .ok (.invokestatic 245, 3) := by decide +kernel
theorem dX5_lastNight_12 : decode cX5_lastNight 12 = .ok (.ifCond .eq 5, 3) := by decide +kernel
theorem dX5_lastNight_15 : decode cX5_lastNight 15 = .ok (.iload_n 1, 1) := by decide +kernel
theorem dX5_lastNight_16 : decode cX5_lastNight 16 = .ok (.ireturn, 1) := by decide +kernel
theorem dX5_lastNight_17 : decode cX5_lastNight 17 = .ok (.iinc 1 (-1), 3) := by decide +kernel
theorem dX5_lastNight_20 : decode cX5_lastNight 20 = .ok (.goto (-17), 3) := by decide +kernel
theorem dX5_lastNight_23 : decode cX5_lastNight 23 = .ok (.iconst (-1), 1) := by decide +kernel
theorem dX5_lastNight_24 : decode cX5_lastNight 24 = .ok (.ireturn, 1) := by decide +kernel
theorem dX5_ranked_0 : decode cX5_ranked 0 = .ok (.aload_n 0, 1) := by decide +kernel
theorem dX5_ranked_1 : decode cX5_ranked 1 = .ok (.iload_n 1, 1) := by decide +kernel
theorem dX5_ranked_2 : decode cX5_ranked 2 = .ok (.invokevirtual 184, 3) := by decide +kernel
theorem dX5_ranked_5 : decode cX5_ranked 5 = .ok (.iload_n 2, 1) := by decide +kernel
theorem dX5_ranked_6 : decode cX5_ranked 6 = .ok (.ifCond .ge 13, 3) := by decide +kernel
theorem dX5_ranked_9 : decode cX5_ranked 9 = .ok (.new 61, 3) := by decide +kernel
theorem dX5_ranked_12 : decode cX5_ranked 12 = .ok (.dup, 1) := by decide +kernel
theorem dX5_ranked_13 : decode cX5_ranked 13 = .ok (.ldc 248, 2) := by decide +kernel
theorem dX5_ranked_15 : decode cX5_ranked 15 = .ok (.invokespecial 65, 3) := by decide +kernel
theorem dX5_ranked_18 : decode cX5_ranked 18 = .ok (.athrow, 1) := by decide +kernel
theorem dX5_ranked_19 : decode cX5_ranked 19 = .ok (.aload_n 0, 1) := by decide +kernel
theorem dX5_ranked_20 : decode cX5_ranked 20 = .ok (.getfield 10, 3) := by decide +kernel
theorem dX5_ranked_23 : decode cX5_ranked 23 = .ok (.iload_n 1, 1) := by decide +kernel
theorem dX5_ranked_24 : decode cX5_ranked 24 = .ok (.iload_n 2, 1) := by decide +kernel
theorem dX5_ranked_25 : decode cX5_ranked 25 = .ok (.invokevirtual 250, 3) := by decide +kernel
theorem dX5_ranked_28 : decode cX5_ranked 28 = .ok (.ireturn, 1) := by decide +kernel
theorem dX5_found_0 : decode cX5_found 0 = .ok (.aload_n 0, 1) := by decide +kernel
theorem dX5_found_1 : decode cX5_found 1 = .ok (.iload_n 1, 1) := by decide +kernel
theorem dX5_found_2 : decode cX5_found 2 = .ok (.invokevirtual 253, 3) := by decide +kernel
theorem dX5_found_5 : decode cX5_found 5 = .ok (.iload_n 2, 1) := by decide +kernel
theorem dX5_found_6 : decode cX5_found 6 = .ok (.tableswitch 124 0 4 #[34, 43, 52, 61, 70], 34) := by decide +kernel
theorem dX5_found_40 : decode cX5_found 40 = .ok (.aload_n 0, 1) := by decide +kernel
theorem dX5_found_41 : decode cX5_found 41 = .ok (.getfield 10, 3) := by decide +kernel
theorem dX5_found_44 : decode cX5_found 44 = .ok (.iload_n 1, 1) := by decide +kernel
theorem dX5_found_45 : decode cX5_found 45 = .ok (.invokevirtual 256, 3) := by decide +kernel
theorem dX5_found_48 : decode cX5_found 48 = .ok (.ireturn, 1) := by decide +kernel
theorem dX5_found_49 : decode cX5_found 49 = .ok (.aload_n 0, 1) := by decide +kernel
theorem dX5_found_50 : decode cX5_found 50 = .ok (.getfield 10, 3) := by decide +kernel
theorem dX5_found_53 : decode cX5_found 53 = .ok (.iload_n 1, 1) := by decide +kernel
theorem dX5_found_54 : decode cX5_found 54 = .ok (.invokevirtual 259, 3) := by decide +kernel
theorem dX5_found_57 : decode cX5_found 57 = .ok (.ireturn, 1) := by decide +kernel
theorem dX5_found_58 : decode cX5_found 58 = .ok (.aload_n 0, 1) := by decide +kernel
theorem dX5_found_59 : decode cX5_found 59 = .ok (.getfield 10, 3) := by decide +kernel
theorem dX5_found_62 : decode cX5_found 62 = .ok (.iload_n 1, 1) := by decide +kernel
theorem dX5_found_63 : decode cX5_found 63 = .ok (.invokevirtual 262, 3) := by decide +kernel
theorem dX5_found_66 : decode cX5_found 66 = .ok (.ireturn, 1) := by decide +kernel
theorem dX5_found_67 : decode cX5_found 67 = .ok (.aload_n 0, 1) := by decide +kernel
theorem dX5_found_68 : decode cX5_found 68 = .ok (.getfield 10, 3) := by decide +kernel
theorem dX5_found_71 : decode cX5_found 71 = .ok (.iload_n 1, 1) := by decide +kernel
theorem dX5_found_72 : decode cX5_found 72 = .ok (.invokevirtual 265, 3) := by decide +kernel
theorem dX5_found_75 : decode cX5_found 75 = .ok (.ireturn, 1) := by decide +kernel
theorem dX5_found_76 : decode cX5_found 76 = .ok (.aload_n 0, 1) := by decide +kernel
theorem dX5_found_77 : decode cX5_found 77 = .ok (.getfield 44, 3) := by decide +kernel
theorem dX5_found_80 : decode cX5_found 80 = .ok (.aload_n 0, 1) := by decide +kernel
theorem dX5_found_81 : decode cX5_found 81 = .ok (.getfield 10, 3) := by decide +kernel
theorem dX5_found_84 : decode cX5_found 84 = .ok (.aload_n 0, 1) := by decide +kernel
theorem dX5_found_85 : decode cX5_found 85 = .ok (.getfield 10, 3) := by decide +kernel
theorem dX5_found_88 : decode cX5_found 88 = .ok (.iload_n 1, 1) := by decide +kernel
theorem dX5_found_89 : decode cX5_found 89 = .ok (.invokevirtual 256, 3) := by decide +kernel
theorem dX5_found_92 : decode cX5_found 92 = .ok (.invokevirtual 165, 3) := by decide +kernel
theorem dX5_found_95 : decode cX5_found 95 = .ok (.aload_n 0, 1) := by decide +kernel
theorem dX5_found_96 : decode cX5_found 96 = .ok (.getfield 44, 3) := by decide +kernel
theorem dX5_found_99 : decode cX5_found 99 = .ok (.invokevirtual 169, 3) := by decide +kernel
theorem dX5_found_102 : decode cX5_found 102 = .ok (.ifCond .ne 26, 3) := by decide +kernel
theorem dX5_found_105 : decode cX5_found 105 = .ok (.aload_n 0, 1) := by decide +kernel
theorem dX5_found_106 : decode cX5_found 106 = .ok (.getfield 44, 3) := by decide +kernel
theorem dX5_found_109 : decode cX5_found 109 = .ok (.aload_n 0, 1) := by decide +kernel
theorem dX5_found_110 : decode cX5_found 110 = .ok (.getfield 10, 3) := by decide +kernel
theorem dX5_found_113 : decode cX5_found 113 = .ok (.iload_n 1, 1) := by decide +kernel
theorem dX5_found_114 : decode cX5_found 114 = .ok (.invokevirtual 259, 3) := by decide +kernel
theorem dX5_found_117 : decode cX5_found 117 = .ok (.invokevirtual 268, 3) := by decide +kernel
theorem dX5_found_120 : decode cX5_found 120 = .ok (.iload_n 1, 1) := by decide +kernel
theorem dX5_found_121 : decode cX5_found 121 = .ok (.if_icmp .ne 7, 3) := by decide +kernel
theorem dX5_found_124 : decode cX5_found 124 = .ok (.iconst 1, 1) := by decide +kernel
theorem dX5_found_125 : decode cX5_found 125 = .ok (.goto 4, 3) := by decide +kernel
theorem dX5_found_128 : decode cX5_found 128 = .ok (.iconst 0, 1) := by decide +kernel
theorem dX5_found_129 : decode cX5_found 129 = .ok (.ireturn, 1) := by decide +kernel
theorem dX5_found_130 : decode cX5_found 130 = .ok (.new 61, 3) := by decide +kernel
theorem dX5_found_133 : decode cX5_found 133 = .ok (.dup, 1) := by decide +kernel
theorem dX5_found_134 : decode cX5_found 134 = .ok (.ldc 215, 2) := by decide +kernel
theorem dX5_found_136 : decode cX5_found 136 = .ok (.invokespecial 65, 3) := by decide +kernel
theorem dX5_found_139 : decode cX5_found 139 = .ok (.athrow, 1) := by decide +kernel
theorem dX5_setting_0 : decode cX5_setting 0 = .ok (.iload_n 1, 1) := by decide +kernel
theorem dX5_setting_1 : decode cX5_setting 1 = .ok (.invokestatic 271, 3) := by decide +kernel
theorem dX5_setting_4 : decode cX5_setting 4 = .ok (.aload_n 0, 1) := by decide +kernel
theorem dX5_setting_5 : decode cX5_setting 5 = .ok (.getfield 10, 3) := by decide +kernel
theorem dX5_setting_8 : decode cX5_setting 8 = .ok (.iload_n 1, 1) := by decide +kernel
theorem dX5_setting_9 : decode cX5_setting 9 = .ok (.invokevirtual 274, 3) := by decide +kernel
theorem dX5_setting_12 : decode cX5_setting 12 = .ok (.ireturn, 1) := by decide +kernel
theorem dX5_addActor_0 : decode cX5_addActor 0 = .ok (.iload_n 1, 1) := by decide +kernel
theorem dX5_addActor_1 : decode cX5_addActor 1 = .ok (.ifCond .lt 9, 3) := by decide +kernel
theorem dX5_addActor_4 : decode cX5_addActor 4 = .ok (.iload_n 1, 1) := by decide +kernel
theorem dX5_addActor_5 : decode cX5_addActor 5 = .ok (.bipush 9, 2) := by decide +kernel
theorem dX5_addActor_7 : decode cX5_addActor 7 = .ok (.if_icmp .le 14, 3) := by decide +kernel
theorem dX5_addActor_10 : decode cX5_addActor 10 = .ok (.new 61, 3) := by decide +kernel
theorem dX5_addActor_13 : decode cX5_addActor 13 = .ok (.dup, 1) := by decide +kernel
theorem dX5_addActor_14 : decode cX5_addActor 14 = .ok (.ldc_w 277, 3) := by decide +kernel
theorem dX5_addActor_17 : decode cX5_addActor 17 = .ok (.invokespecial 65, 3) := by decide +kernel
theorem dX5_addActor_20 : decode cX5_addActor 20 = .ok (.athrow, 1) := by decide +kernel
theorem dX5_addActor_21 : decode cX5_addActor 21 = .ok (.aload_n 0, 1) := by decide +kernel
theorem dX5_addActor_22 : decode cX5_addActor 22 = .ok (.getfield 10, 3) := by decide +kernel
theorem dX5_addActor_25 : decode cX5_addActor 25 = .ok (.iload_n 1, 1) := by decide +kernel
theorem dX5_addActor_26 : decode cX5_addActor 26 = .ok (.invokevirtual 279, 3) := by decide +kernel
theorem dX5_addActor_29 : decode cX5_addActor 29 = .ok (.ifCond .ne 14, 3) := by decide +kernel
theorem dX5_addActor_32 : decode cX5_addActor 32 = .ok (.new 72, 3) := by decide +kernel
theorem dX5_addActor_35 : decode cX5_addActor 35 = .ok (.dup, 1) := by decide +kernel
theorem dX5_addActor_36 : decode cX5_addActor 36 = .ok (.ldc_w 282, 3) := by decide +kernel
theorem dX5_addActor_39 : decode cX5_addActor 39 = .ok (.invokespecial 76, 3) := by decide +kernel
theorem dX5_addActor_42 : decode cX5_addActor 42 = .ok (.athrow, 1) := by decide +kernel
theorem dX5_addActor_43 : decode cX5_addActor 43 = .ok (.aload_n 0, 1) := by decide +kernel
theorem dX5_addActor_44 : decode cX5_addActor 44 = .ok (.getfield 22, 3) := by decide +kernel
theorem dX5_addActor_47 : decode cX5_addActor 47 = .ok (.aload_n 0, 1) := by decide +kernel
theorem dX5_addActor_48 : decode cX5_addActor 48 = .ok (.getfield 10, 3) := by decide +kernel
theorem dX5_addActor_51 : decode cX5_addActor 51 = .ok (.invokevirtual 284, 3) := by decide +kernel
theorem dX5_addActor_54 : decode cX5_addActor 54 = .ok (.aload_n 0, 1) := by decide +kernel
theorem dX5_addActor_55 : decode cX5_addActor 55 = .ok (.getfield 10, 3) := by decide +kernel
theorem dX5_addActor_58 : decode cX5_addActor 58 = .ok (.invokevirtual 141, 3) := by decide +kernel
theorem dX5_addActor_61 : decode cX5_addActor 61 = .ok (.istore_n 2, 1) := by decide +kernel
theorem dX5_addActor_62 : decode cX5_addActor 62 = .ok (.aload_n 0, 1) := by decide +kernel
theorem dX5_addActor_63 : decode cX5_addActor 63 = .ok (.getfield 10, 3) := by decide +kernel
theorem dX5_addActor_66 : decode cX5_addActor 66 = .ok (.iload_n 1, 1) := by decide +kernel
theorem dX5_addActor_67 : decode cX5_addActor 67 = .ok (.invokevirtual 113, 3) := by decide +kernel
theorem dX5_addActor_70 : decode cX5_addActor 70 = .ok (.pop, 1) := by decide +kernel
theorem dX5_addActor_71 : decode cX5_addActor 71 = .ok (.iload_n 2, 1) := by decide +kernel
theorem dX5_addActor_72 : decode cX5_addActor 72 = .ok (.ireturn, 1) := by decide +kernel
theorem dX5_addPart_0 : decode cX5_addPart 0 = .ok (.aload_n 0, 1) := by decide +kernel
theorem dX5_addPart_1 : decode cX5_addPart 1 = .ok (.getfield 10, 3) := by decide +kernel
theorem dX5_addPart_4 : decode cX5_addPart 4 = .ok (.invokevirtual 287, 3) := by decide +kernel
theorem dX5_addPart_7 : decode cX5_addPart 7 = .ok (.ifCond .ne 14, 3) := by decide +kernel
theorem dX5_addPart_10 : decode cX5_addPart 10 = .ok (.new 72, 3) := by decide +kernel
theorem dX5_addPart_13 : decode cX5_addPart 13 = .ok (.dup, 1) := by decide +kernel
theorem dX5_addPart_14 : decode cX5_addPart 14 = .ok (.ldc_w 290, 3) := by decide +kernel
theorem dX5_addPart_17 : decode cX5_addPart 17 = .ok (.invokespecial 76, 3) := by decide +kernel
theorem dX5_addPart_20 : decode cX5_addPart 20 = .ok (.athrow, 1) := by decide +kernel
theorem dX5_addPart_21 : decode cX5_addPart 21 = .ok (.aload_n 0, 1) := by decide +kernel
theorem dX5_addPart_22 : decode cX5_addPart 22 = .ok (.getfield 22, 3) := by decide +kernel
theorem dX5_addPart_25 : decode cX5_addPart 25 = .ok (.aload_n 0, 1) := by decide +kernel
theorem dX5_addPart_26 : decode cX5_addPart 26 = .ok (.getfield 10, 3) := by decide +kernel
theorem dX5_addPart_29 : decode cX5_addPart 29 = .ok (.invokevirtual 284, 3) := by decide +kernel
theorem dX5_addPart_32 : decode cX5_addPart 32 = .ok (.aload_n 0, 1) := by decide +kernel
theorem dX5_addPart_33 : decode cX5_addPart 33 = .ok (.getfield 10, 3) := by decide +kernel
theorem dX5_addPart_36 : decode cX5_addPart 36 = .ok (.invokevirtual 138, 3) := by decide +kernel
theorem dX5_addPart_39 : decode cX5_addPart 39 = .ok (.istore_n 1, 1) := by decide +kernel
theorem dX5_addPart_40 : decode cX5_addPart 40 = .ok (.aload_n 0, 1) := by decide +kernel
theorem dX5_addPart_41 : decode cX5_addPart 41 = .ok (.getfield 10, 3) := by decide +kernel
theorem dX5_addPart_44 : decode cX5_addPart 44 = .ok (.invokevirtual 116, 3) := by decide +kernel
theorem dX5_addPart_47 : decode cX5_addPart 47 = .ok (.pop, 1) := by decide +kernel
theorem dX5_addPart_48 : decode cX5_addPart 48 = .ok (.iload_n 1, 1) := by decide +kernel
theorem dX5_addPart_49 : decode cX5_addPart 49 = .ok (.ireturn, 1) := by decide +kernel
theorem dX5_cast_0 : decode cX5_cast 0 = .ok (.aload_n 0, 1) := by decide +kernel
theorem dX5_cast_1 : decode cX5_cast 1 = .ok (.getfield 10, 3) := by decide +kernel
theorem dX5_cast_4 : decode cX5_cast 4 = .ok (.iload_n 1, 1) := by decide +kernel
theorem dX5_cast_5 : decode cX5_cast 5 = .ok (.iload_n 2, 1) := by decide +kernel
theorem dX5_cast_6 : decode cX5_cast 6 = .ok (.iload_n 3, 1) := by decide +kernel
theorem dX5_cast_7 : decode cX5_cast 7 = .ok (.invokevirtual 292, 3) := by decide +kernel
theorem dX5_cast_10 : decode cX5_cast 10 = .ok (.ifCond .ne 14, 3) := by decide +kernel
theorem dX5_cast_13 : decode cX5_cast 13 = .ok (.new 295, 3) := by decide +kernel
theorem dX5_cast_16 : decode cX5_cast 16 = .ok (.dup, 1) := by decide +kernel
theorem dX5_cast_17 : decode cX5_cast 17 = .ok (.ldc_w 297, 3) := by decide +kernel
theorem dX5_cast_20 : decode cX5_cast 20 = .ok (.invokespecial 299, 3) := by decide +kernel
theorem dX5_cast_23 : decode cX5_cast 23 = .ok (.athrow, 1) := by decide +kernel
theorem dX5_cast_24 : decode cX5_cast 24 = .ok (.aload_n 0, 1) := by decide +kernel
theorem dX5_cast_25 : decode cX5_cast 25 = .ok (.getfield 22, 3) := by decide +kernel
theorem dX5_cast_28 : decode cX5_cast 28 = .ok (.aload_n 0, 1) := by decide +kernel
theorem dX5_cast_29 : decode cX5_cast 29 = .ok (.getfield 10, 3) := by decide +kernel
theorem dX5_cast_32 : decode cX5_cast 32 = .ok (.invokevirtual 284, 3) := by decide +kernel
theorem dX5_cast_35 : decode cX5_cast 35 = .ok (.aload_n 0, 1) := by decide +kernel
theorem dX5_cast_36 : decode cX5_cast 36 = .ok (.getfield 10, 3) := by decide +kernel
theorem dX5_cast_39 : decode cX5_cast 39 = .ok (.iload_n 1, 1) := by decide +kernel
theorem dX5_cast_40 : decode cX5_cast 40 = .ok (.iload_n 3, 1) := by decide +kernel
theorem dX5_cast_41 : decode cX5_cast 41 = .ok (.invokevirtual 190, 3) := by decide +kernel
theorem dX5_cast_44 : decode cX5_cast 44 = .ok (.istore 4, 2) := by decide +kernel
theorem dX5_cast_46 : decode cX5_cast 46 = .ok (.aload_n 0, 1) := by decide +kernel
theorem dX5_cast_47 : decode cX5_cast 47 = .ok (.getfield 10, 3) := by decide +kernel
theorem dX5_cast_50 : decode cX5_cast 50 = .ok (.iload_n 1, 1) := by decide +kernel
theorem dX5_cast_51 : decode cX5_cast 51 = .ok (.iload_n 2, 1) := by decide +kernel
theorem dX5_cast_52 : decode cX5_cast 52 = .ok (.iload_n 3, 1) := by decide +kernel
theorem dX5_cast_53 : decode cX5_cast 53 = .ok (.invokevirtual 122, 3) := by decide +kernel
theorem dX5_cast_56 : decode cX5_cast 56 = .ok (.pop, 1) := by decide +kernel
theorem dX5_cast_57 : decode cX5_cast 57 = .ok (.iload 4, 2) := by decide +kernel
theorem dX5_cast_59 : decode cX5_cast 59 = .ok (.ireturn, 1) := by decide +kernel
theorem dX5_understudy_0 : decode cX5_understudy 0 = .ok (.aload_n 0, 1) := by decide +kernel
theorem dX5_understudy_1 : decode cX5_understudy 1 = .ok (.iload_n 1, 1) := by decide +kernel
theorem dX5_understudy_2 : decode cX5_understudy 2 = .ok (.invokevirtual 184, 3) := by decide +kernel
theorem dX5_understudy_5 : decode cX5_understudy 5 = .ok (.aload_n 0, 1) := by decide +kernel
theorem dX5_understudy_6 : decode cX5_understudy 6 = .ok (.iload_n 2, 1) := by decide +kernel
theorem dX5_understudy_7 : decode cX5_understudy 7 = .ok (.invokevirtual 217, 3) := by decide +kernel
theorem dX5_understudy_10 : decode cX5_understudy 10 = .ok (.aload_n 0, 1) := by decide +kernel
theorem dX5_understudy_11 : decode cX5_understudy 11 = .ok (.getfield 10, 3) := by decide +kernel
theorem dX5_understudy_14 : decode cX5_understudy 14 = .ok (.iload_n 1, 1) := by decide +kernel
theorem dX5_understudy_15 : decode cX5_understudy 15 = .ok (.iload_n 2, 1) := by decide +kernel
theorem dX5_understudy_16 : decode cX5_understudy 16 = .ok (.invokevirtual 300, 3) := by decide +kernel
theorem dX5_understudy_19 : decode cX5_understudy 19 = .ok (.ifCond .ne 14, 3) := by decide +kernel
theorem dX5_understudy_22 : decode cX5_understudy 22 = .ok (.new 72, 3) := by decide +kernel
theorem dX5_understudy_25 : decode cX5_understudy 25 = .ok (.dup, 1) := by decide +kernel
theorem dX5_understudy_26 : decode cX5_understudy 26 = .ok (.ldc_w 303, 3) := by decide +kernel
theorem dX5_understudy_29 : decode cX5_understudy 29 = .ok (.invokespecial 76, 3) := by decide +kernel
theorem dX5_understudy_32 : decode cX5_understudy 32 = .ok (.athrow, 1) := by decide +kernel
theorem dX5_understudy_33 : decode cX5_understudy 33 = .ok (.aload_n 0, 1) := by decide +kernel
theorem dX5_understudy_34 : decode cX5_understudy 34 = .ok (.getfield 22, 3) := by decide +kernel
theorem dX5_understudy_37 : decode cX5_understudy 37 = .ok (.aload_n 0, 1) := by decide +kernel
theorem dX5_understudy_38 : decode cX5_understudy 38 = .ok (.getfield 10, 3) := by decide +kernel
theorem dX5_understudy_41 : decode cX5_understudy 41 = .ok (.invokevirtual 284, 3) := by decide +kernel
theorem dX5_understudy_44 : decode cX5_understudy 44 = .ok (.aload_n 0, 1) := by decide +kernel
theorem dX5_understudy_45 : decode cX5_understudy 45 = .ok (.getfield 10, 3) := by decide +kernel
theorem dX5_understudy_48 : decode cX5_understudy 48 = .ok (.iload_n 1, 1) := by decide +kernel
theorem dX5_understudy_49 : decode cX5_understudy 49 = .ok (.iload_n 2, 1) := by decide +kernel
theorem dX5_understudy_50 : decode cX5_understudy 50 = .ok (.invokevirtual 126, 3) := by decide +kernel
theorem dX5_understudy_53 : decode cX5_understudy 53 = .ok (.pop, 1) := by decide +kernel
theorem dX5_understudy_54 : decode cX5_understudy 54 = .ok (.aload_n 0, 1) := by decide +kernel
theorem dX5_understudy_55 : decode cX5_understudy 55 = .ok (.getfield 10, 3) := by decide +kernel
theorem dX5_understudy_58 : decode cX5_understudy 58 = .ok (.iload_n 1, 1) := by decide +kernel
theorem dX5_understudy_59 : decode cX5_understudy 59 = .ok (.invokevirtual 305, 3) := by decide +kernel
theorem dX5_understudy_62 : decode cX5_understudy 62 = .ok (.ireturn, 1) := by decide +kernel
theorem dX5_release_0 : decode cX5_release 0 = .ok (.aload_n 0, 1) := by decide +kernel
theorem dX5_release_1 : decode cX5_release 1 = .ok (.iload_n 1, 1) := by decide +kernel
theorem dX5_release_2 : decode cX5_release 2 = .ok (.invokevirtual 184, 3) := by decide +kernel
theorem dX5_release_5 : decode cX5_release 5 = .ok (.aload_n 0, 1) := by decide +kernel
theorem dX5_release_6 : decode cX5_release 6 = .ok (.iload_n 2, 1) := by decide +kernel
theorem dX5_release_7 : decode cX5_release 7 = .ok (.invokevirtual 217, 3) := by decide +kernel
theorem dX5_release_10 : decode cX5_release 10 = .ok (.aload_n 0, 1) := by decide +kernel
theorem dX5_release_11 : decode cX5_release 11 = .ok (.getfield 10, 3) := by decide +kernel
theorem dX5_release_14 : decode cX5_release 14 = .ok (.iload_n 1, 1) := by decide +kernel
theorem dX5_release_15 : decode cX5_release 15 = .ok (.iload_n 2, 1) := by decide +kernel
theorem dX5_release_16 : decode cX5_release 16 = .ok (.invokevirtual 308, 3) := by decide +kernel
theorem dX5_release_19 : decode cX5_release 19 = .ok (.istore_n 3, 1) := by decide +kernel
theorem dX5_release_20 : decode cX5_release 20 = .ok (.iload_n 3, 1) := by decide +kernel
theorem dX5_release_21 : decode cX5_release 21 = .ok (.iconst (-1), 1) := by decide +kernel
theorem dX5_release_22 : decode cX5_release 22 = .ok (.if_icmp .ne 14, 3) := by decide +kernel
theorem dX5_release_25 : decode cX5_release 25 = .ok (.new 72, 3) := by decide +kernel
theorem dX5_release_28 : decode cX5_release 28 = .ok (.dup, 1) := by decide +kernel
theorem dX5_release_29 : decode cX5_release 29 = .ok (.ldc_w 311, 3) := by decide +kernel
theorem dX5_release_32 : decode cX5_release 32 = .ok (.invokespecial 76, 3) := by decide +kernel
theorem dX5_release_35 : decode cX5_release 35 = .ok (.athrow, 1) := by decide +kernel
theorem dX5_release_36 : decode cX5_release 36 = .ok (.aload_n 0, 1) := by decide +kernel
theorem dX5_release_37 : decode cX5_release 37 = .ok (.getfield 22, 3) := by decide +kernel
theorem dX5_release_40 : decode cX5_release 40 = .ok (.aload_n 0, 1) := by decide +kernel
theorem dX5_release_41 : decode cX5_release 41 = .ok (.getfield 10, 3) := by decide +kernel
theorem dX5_release_44 : decode cX5_release 44 = .ok (.invokevirtual 284, 3) := by decide +kernel
theorem dX5_release_47 : decode cX5_release 47 = .ok (.aload_n 0, 1) := by decide +kernel
theorem dX5_release_48 : decode cX5_release 48 = .ok (.getfield 10, 3) := by decide +kernel
theorem dX5_release_51 : decode cX5_release 51 = .ok (.iload_n 1, 1) := by decide +kernel
theorem dX5_release_52 : decode cX5_release 52 = .ok (.iload_n 2, 1) := by decide +kernel
theorem dX5_release_53 : decode cX5_release 53 = .ok (.invokevirtual 313, 3) := by decide +kernel
theorem dX5_release_56 : decode cX5_release 56 = .ok (.pop, 1) := by decide +kernel
theorem dX5_release_57 : decode cX5_release 57 = .ok (.iload_n 3, 1) := by decide +kernel
theorem dX5_release_58 : decode cX5_release 58 = .ok (.ireturn, 1) := by decide +kernel
theorem dX5_ill_0 : decode cX5_ill 0 = .ok (.aload_n 0, 1) := by decide +kernel
theorem dX5_ill_1 : decode cX5_ill 1 = .ok (.iload_n 1, 1) := by decide +kernel
theorem dX5_ill_2 : decode cX5_ill 2 = .ok (.invokevirtual 217, 3) := by decide +kernel
theorem dX5_ill_5 : decode cX5_ill 5 = .ok (.iload_n 2, 1) := by decide +kernel
theorem dX5_ill_6 : decode cX5_ill 6 = .ok (.invokestatic 181, 3) := by decide +kernel
theorem dX5_ill_9 : decode cX5_ill 9 = .ok (.aload_n 0, 1) := by decide +kernel
theorem dX5_ill_10 : decode cX5_ill 10 = .ok (.getfield 22, 3) := by decide +kernel
theorem dX5_ill_13 : decode cX5_ill 13 = .ok (.aload_n 0, 1) := by decide +kernel
theorem dX5_ill_14 : decode cX5_ill 14 = .ok (.getfield 10, 3) := by decide +kernel
theorem dX5_ill_17 : decode cX5_ill 17 = .ok (.invokevirtual 284, 3) := by decide +kernel
theorem dX5_ill_20 : decode cX5_ill 20 = .ok (.aload_n 0, 1) := by decide +kernel
theorem dX5_ill_21 : decode cX5_ill 21 = .ok (.getfield 10, 3) := by decide +kernel
theorem dX5_ill_24 : decode cX5_ill 24 = .ok (.iload_n 1, 1) := by decide +kernel
theorem dX5_ill_25 : decode cX5_ill 25 = .ok (.iload_n 2, 1) := by decide +kernel
theorem dX5_ill_26 : decode cX5_ill 26 = .ok (.iload_n 3, 1) := by decide +kernel
theorem dX5_ill_27 : decode cX5_ill 27 = .ok (.invokevirtual 130, 3) := by decide +kernel
theorem dX5_ill_30 : decode cX5_ill 30 = .ok (.pop, 1) := by decide +kernel
theorem dX5_ill_31 : decode cX5_ill 31 = .ok (.aload_n 0, 1) := by decide +kernel
theorem dX5_ill_32 : decode cX5_ill 32 = .ok (.getfield 10, 3) := by decide +kernel
theorem dX5_ill_35 : decode cX5_ill 35 = .ok (.iload_n 1, 1) := by decide +kernel
theorem dX5_ill_36 : decode cX5_ill 36 = .ok (.invokevirtual 240, 3) := by decide +kernel
theorem dX5_ill_39 : decode cX5_ill 39 = .ok (.ireturn, 1) := by decide +kernel
theorem dX5_slip_0 : decode cX5_slip 0 = .ok (.iload_n 1, 1) := by decide +kernel
theorem dX5_slip_1 : decode cX5_slip 1 = .ok (.invokestatic 181, 3) := by decide +kernel
theorem dX5_slip_4 : decode cX5_slip 4 = .ok (.aload_n 0, 1) := by decide +kernel
theorem dX5_slip_5 : decode cX5_slip 5 = .ok (.iload_n 2, 1) := by decide +kernel
theorem dX5_slip_6 : decode cX5_slip 6 = .ok (.invokevirtual 184, 3) := by decide +kernel
theorem dX5_slip_9 : decode cX5_slip 9 = .ok (.aload_n 0, 1) := by decide +kernel
theorem dX5_slip_10 : decode cX5_slip 10 = .ok (.iload_n 3, 1) := by decide +kernel
theorem dX5_slip_11 : decode cX5_slip 11 = .ok (.invokevirtual 217, 3) := by decide +kernel
theorem dX5_slip_14 : decode cX5_slip 14 = .ok (.iload 4, 2) := by decide +kernel
theorem dX5_slip_16 : decode cX5_slip 16 = .ok (.ifCond .lt 10, 3) := by decide +kernel
theorem dX5_slip_19 : decode cX5_slip 19 = .ok (.iload 4, 2) := by decide +kernel
theorem dX5_slip_21 : decode cX5_slip 21 = .ok (.bipush 24, 2) := by decide +kernel
theorem dX5_slip_23 : decode cX5_slip 23 = .ok (.if_icmp .lt 14, 3) := by decide +kernel
theorem dX5_slip_26 : decode cX5_slip 26 = .ok (.new 61, 3) := by decide +kernel
theorem dX5_slip_29 : decode cX5_slip 29 = .ok (.dup, 1) := by decide +kernel
theorem dX5_slip_30 : decode cX5_slip 30 = .ok (.ldc_w 316, 3) := by decide +kernel
theorem dX5_slip_33 : decode cX5_slip 33 = .ok (.invokespecial 65, 3) := by decide +kernel
theorem dX5_slip_36 : decode cX5_slip 36 = .ok (.athrow, 1) := by decide +kernel
theorem dX5_slip_37 : decode cX5_slip 37 = .ok (.aload_n 0, 1) := by decide +kernel
theorem dX5_slip_38 : decode cX5_slip 38 = .ok (.getfield 10, 3) := by decide +kernel
theorem dX5_slip_41 : decode cX5_slip 41 = .ok (.iload_n 1, 1) := by decide +kernel
theorem dX5_slip_42 : decode cX5_slip 42 = .ok (.iload_n 2, 1) := by decide +kernel
theorem dX5_slip_43 : decode cX5_slip 43 = .ok (.iload_n 3, 1) := by decide +kernel
theorem dX5_slip_44 : decode cX5_slip 44 = .ok (.iload 4, 2) := by decide +kernel
theorem dX5_slip_46 : decode cX5_slip 46 = .ok (.invokevirtual 318, 3) := by decide +kernel
theorem dX5_slip_49 : decode cX5_slip 49 = .ok (.ifCond .ne 14, 3) := by decide +kernel
theorem dX5_slip_52 : decode cX5_slip 52 = .ok (.new 72, 3) := by decide +kernel
theorem dX5_slip_55 : decode cX5_slip 55 = .ok (.dup, 1) := by decide +kernel
theorem dX5_slip_56 : decode cX5_slip 56 = .ok (.ldc_w 321, 3) := by decide +kernel
theorem dX5_slip_59 : decode cX5_slip 59 = .ok (.invokespecial 76, 3) := by decide +kernel
theorem dX5_slip_62 : decode cX5_slip 62 = .ok (.athrow, 1) := by decide +kernel
theorem dX5_slip_63 : decode cX5_slip 63 = .ok (.aload_n 0, 1) := by decide +kernel
theorem dX5_slip_64 : decode cX5_slip 64 = .ok (.getfield 22, 3) := by decide +kernel
theorem dX5_slip_67 : decode cX5_slip 67 = .ok (.aload_n 0, 1) := by decide +kernel
theorem dX5_slip_68 : decode cX5_slip 68 = .ok (.getfield 10, 3) := by decide +kernel
theorem dX5_slip_71 : decode cX5_slip 71 = .ok (.invokevirtual 284, 3) := by decide +kernel
theorem dX5_slip_74 : decode cX5_slip 74 = .ok (.aload_n 0, 1) := by decide +kernel
theorem dX5_slip_75 : decode cX5_slip 75 = .ok (.getfield 10, 3) := by decide +kernel
theorem dX5_slip_78 : decode cX5_slip 78 = .ok (.invokevirtual 144, 3) := by decide +kernel
theorem dX5_slip_81 : decode cX5_slip 81 = .ok (.istore 5, 2) := by decide +kernel
theorem dX5_slip_83 : decode cX5_slip 83 = .ok (.aload_n 0, 1) := by decide +kernel
theorem dX5_slip_84 : decode cX5_slip 84 = .ok (.getfield 10, 3) := by decide +kernel
theorem dX5_slip_87 : decode cX5_slip 87 = .ok (.iload_n 1, 1) := by decide +kernel
theorem dX5_slip_88 : decode cX5_slip 88 = .ok (.iload_n 2, 1) := by decide +kernel
theorem dX5_slip_89 : decode cX5_slip 89 = .ok (.iload_n 3, 1) := by decide +kernel
theorem dX5_slip_90 : decode cX5_slip 90 = .ok (.iload 4, 2) := by decide +kernel
theorem dX5_slip_92 : decode cX5_slip 92 = .ok (.invokevirtual 134, 3) := by decide +kernel
theorem dX5_slip_95 : decode cX5_slip 95 = .ok (.pop, 1) := by decide +kernel
theorem dX5_slip_96 : decode cX5_slip 96 = .ok (.iload 5, 2) := by decide +kernel
theorem dX5_slip_98 : decode cX5_slip 98 = .ok (.ireturn, 1) := by decide +kernel
theorem dX5_lose_0 : decode cX5_lose 0 = .ok (.aload_n 0, 1) := by decide +kernel
theorem dX5_lose_1 : decode cX5_lose 1 = .ok (.iload_n 1, 1) := by decide +kernel
theorem dX5_lose_2 : decode cX5_lose 2 = .ok (.invokevirtual 253, 3) := by decide +kernel
theorem dX5_lose_5 : decode cX5_lose 5 = .ok (.aload_n 0, 1) := by decide +kernel
theorem dX5_lose_6 : decode cX5_lose 6 = .ok (.getfield 22, 3) := by decide +kernel
theorem dX5_lose_9 : decode cX5_lose 9 = .ok (.aload_n 0, 1) := by decide +kernel
theorem dX5_lose_10 : decode cX5_lose 10 = .ok (.getfield 10, 3) := by decide +kernel
theorem dX5_lose_13 : decode cX5_lose 13 = .ok (.invokevirtual 284, 3) := by decide +kernel
theorem dX5_lose_16 : decode cX5_lose 16 = .ok (.aload_n 0, 1) := by decide +kernel
theorem dX5_lose_17 : decode cX5_lose 17 = .ok (.getfield 10, 3) := by decide +kernel
theorem dX5_lose_20 : decode cX5_lose 20 = .ok (.iload_n 1, 1) := by decide +kernel
theorem dX5_lose_21 : decode cX5_lose 21 = .ok (.invokevirtual 323, 3) := by decide +kernel
theorem dX5_lose_24 : decode cX5_lose 24 = .ok (.pop, 1) := by decide +kernel
theorem dX5_lose_25 : decode cX5_lose 25 = .ok (.aload_n 0, 1) := by decide +kernel
theorem dX5_lose_26 : decode cX5_lose 26 = .ok (.getfield 10, 3) := by decide +kernel
theorem dX5_lose_29 : decode cX5_lose 29 = .ok (.invokevirtual 144, 3) := by decide +kernel
theorem dX5_lose_32 : decode cX5_lose 32 = .ok (.ireturn, 1) := by decide +kernel
theorem dX5_set_0 : decode cX5_set 0 = .ok (.iload_n 1, 1) := by decide +kernel
theorem dX5_set_1 : decode cX5_set 1 = .ok (.invokestatic 271, 3) := by decide +kernel
theorem dX5_set_4 : decode cX5_set 4 = .ok (.iload_n 2, 1) := by decide +kernel
theorem dX5_set_5 : decode cX5_set 5 = .ok (.ifCond .lt 18, 3) := by decide +kernel
theorem dX5_set_8 : decode cX5_set 8 = .ok (.iload_n 2, 1) := by decide +kernel
theorem dX5_set_9 : decode cX5_set 9 = .ok (.iload_n 1, 1) := by decide +kernel
theorem dX5_set_10 : decode cX5_set 10 = .ok (.ifCond .ne 8, 3) := by decide +kernel
theorem dX5_set_13 : decode cX5_set 13 = .ok (.bipush 99, 2) := by decide +kernel
theorem dX5_set_15 : decode cX5_set 15 = .ok (.goto 5, 3) := by decide +kernel
theorem dX5_set_18 : decode cX5_set 18 = .ok (.bipush 9, 2) := by decide +kernel
theorem dX5_set_20 : decode cX5_set 20 = .ok (.if_icmp .le 14, 3) := by decide +kernel
theorem dX5_set_23 : decode cX5_set 23 = .ok (.new 61, 3) := by decide +kernel
theorem dX5_set_26 : decode cX5_set 26 = .ok (.dup, 1) := by decide +kernel
theorem dX5_set_27 : decode cX5_set 27 = .ok (.ldc_w 326, 3) := by decide +kernel
theorem dX5_set_30 : decode cX5_set 30 = .ok (.invokespecial 65, 3) := by decide +kernel
theorem dX5_set_33 : decode cX5_set 33 = .ok (.athrow, 1) := by decide +kernel
theorem dX5_set_34 : decode cX5_set 34 = .ok (.aload_n 0, 1) := by decide +kernel
theorem dX5_set_35 : decode cX5_set 35 = .ok (.getfield 22, 3) := by decide +kernel
theorem dX5_set_38 : decode cX5_set 38 = .ok (.aload_n 0, 1) := by decide +kernel
theorem dX5_set_39 : decode cX5_set 39 = .ok (.getfield 10, 3) := by decide +kernel
