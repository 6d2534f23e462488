theorem dX6_row_34 : decode cX6_row 34 = .ok (.iconst 0, 1) := by decide +kernel
theorem dX6_row_35 : decode cX6_row 35 = .ok (.putfield 58, 3) := by decide +kernel
theorem dX6_row_38 : decode cX6_row 38 = .ok (.iload_n 3, 1) := by decide +kernel
theorem dX6_row_39 : decode cX6_row 39 = .ok (.ifCond .ge 9, 3) := by decide +kernel
theorem dX6_row_42 : decode cX6_row 42 = .ok (.aload_n 0, 1) := by decide +kernel
theorem dX6_row_43 : decode cX6_row 43 = .ok (.iconst 4, 1) := by decide +kernel
theorem dX6_row_44 : decode cX6_row 44 = .ok (.invokevirtual 75, 3) := by decide +kernel
theorem dX6_row_47 : decode cX6_row 47 = .ok (.ireturn, 1) := by decide +kernel
theorem dX6_row_48 : decode cX6_row 48 = .ok (.aload_n 0, 1) := by decide +kernel
theorem dX6_row_49 : decode cX6_row 49 = .ok (.getfield 7, 3) := by decide +kernel
theorem dX6_row_52 : decode cX6_row 52 = .ok (.iload_n 1, 1) := by decide +kernel
theorem dX6_row_53 : decode cX6_row 53 = .ok (.iload_n 2, 1) := by decide +kernel
theorem dX6_row_54 : decode cX6_row 54 = .ok (.iastore, 1) := by decide +kernel
theorem dX6_row_55 : decode cX6_row 55 = .ok (.aload_n 0, 1) := by decide +kernel
theorem dX6_row_56 : decode cX6_row 56 = .ok (.getfield 13, 3) := by decide +kernel
theorem dX6_row_59 : decode cX6_row 59 = .ok (.iload_n 1, 1) := by decide +kernel
theorem dX6_row_60 : decode cX6_row 60 = .ok (.iload_n 3, 1) := by decide +kernel
theorem dX6_row_61 : decode cX6_row 61 = .ok (.iastore, 1) := by decide +kernel
theorem dX6_row_62 : decode cX6_row 62 = .ok (.iconst 0, 1) := by decide +kernel
theorem dX6_row_63 : decode cX6_row 63 = .ok (.istore 4, 2) := by decide +kernel
theorem dX6_row_65 : decode cX6_row 65 = .ok (.iload 4, 2) := by decide +kernel
theorem dX6_row_67 : decode cX6_row 67 = .ok (.bipush 40, 2) := by decide +kernel
theorem dX6_row_69 : decode cX6_row 69 = .ok (.if_icmp .ge 22, 3) := by decide +kernel
theorem dX6_row_72 : decode cX6_row 72 = .ok (.aload_n 0, 1) := by decide +kernel
theorem dX6_row_73 : decode cX6_row 73 = .ok (.getfield 16, 3) := by decide +kernel
theorem dX6_row_76 : decode cX6_row 76 = .ok (.bipush 40, 2) := by decide +kernel
theorem dX6_row_78 : decode cX6_row 78 = .ok (.iload_n 1, 1) := by decide +kernel
theorem dX6_row_79 : decode cX6_row 79 = .ok (.imul, 1) := by decide +kernel
theorem dX6_row_80 : decode cX6_row 80 = .ok (.iload 4, 2) := by decide +kernel
theorem dX6_row_82 : decode cX6_row 82 = .ok (.iadd, 1) := by decide +kernel
theorem dX6_row_83 : decode cX6_row 83 = .ok (.iconst 0, 1) := by decide +kernel
theorem dX6_row_84 : decode cX6_row 84 = .ok (.iastore, 1) := by decide +kernel
theorem dX6_row_85 : decode cX6_row 85 = .ok (.iinc 4 1, 3) := by decide +kernel
theorem dX6_row_88 : decode cX6_row 88 = .ok (.goto (-23), 3) := by decide +kernel
theorem dX6_row_91 : decode cX6_row 91 = .ok (.iload_n 3, 1) := by decide +kernel
theorem dX6_row_92 : decode cX6_row 92 = .ok (.ireturn, 1) := by decide +kernel
theorem dX6_set_0 : decode cX6_set 0 = .ok (.aload_n 0, 1) := by decide +kernel
theorem dX6_set_1 : decode cX6_set 1 = .ok (.iconst 0, 1) := by decide +kernel
theorem dX6_set_2 : decode cX6_set 2 = .ok (.putfield 54, 3) := by decide +kernel
theorem dX6_set_5 : decode cX6_set 5 = .ok (.iload_n 1, 1) := by decide +kernel
theorem dX6_set_6 : decode cX6_set 6 = .ok (.invokestatic 68, 3) := by decide +kernel
theorem dX6_set_9 : decode cX6_set 9 = .ok (.ifCond .ne 6, 3) := by decide +kernel
theorem dX6_set_12 : decode cX6_set 12 = .ok (.ldc 74, 2) := by decide +kernel
theorem dX6_set_14 : decode cX6_set 14 = .ok (.ireturn, 1) := by decide +kernel
theorem dX6_set_15 : decode cX6_set 15 = .ok (.aload_n 0, 1) := by decide +kernel
theorem dX6_set_16 : decode cX6_set 16 = .ok (.iconst 0, 1) := by decide +kernel
theorem dX6_set_17 : decode cX6_set 17 = .ok (.putfield 58, 3) := by decide +kernel
theorem dX6_set_20 : decode cX6_set 20 = .ok (.aload_n 0, 1) := by decide +kernel
theorem dX6_set_21 : decode cX6_set 21 = .ok (.getfield 7, 3) := by decide +kernel
theorem dX6_set_24 : decode cX6_set 24 = .ok (.iload_n 1, 1) := by decide +kernel
theorem dX6_set_25 : decode cX6_set 25 = .ok (.iaload, 1) := by decide +kernel
theorem dX6_set_26 : decode cX6_set 26 = .ok (.ifCond .ge 9, 3) := by decide +kernel
theorem dX6_set_29 : decode cX6_set 29 = .ok (.aload_n 0, 1) := by decide +kernel
theorem dX6_set_30 : decode cX6_set 30 = .ok (.iconst 1, 1) := by decide +kernel
theorem dX6_set_31 : decode cX6_set 31 = .ok (.invokevirtual 75, 3) := by decide +kernel
theorem dX6_set_34 : decode cX6_set 34 = .ok (.ireturn, 1) := by decide +kernel
theorem dX6_set_35 : decode cX6_set 35 = .ok (.iload_n 2, 1) := by decide +kernel
theorem dX6_set_36 : decode cX6_set 36 = .ok (.i2l, 1) := by decide +kernel
theorem dX6_set_37 : decode cX6_set 37 = .ok (.lconst 0, 1) := by decide +kernel
theorem dX6_set_38 : decode cX6_set 38 = .ok (.aload_n 0, 1) := by decide +kernel
theorem dX6_set_39 : decode cX6_set 39 = .ok (.getfield 13, 3) := by decide +kernel
theorem dX6_set_42 : decode cX6_set 42 = .ok (.iload_n 1, 1) := by decide +kernel
theorem dX6_set_43 : decode cX6_set 43 = .ok (.iaload, 1) := by decide +kernel
theorem dX6_set_44 : decode cX6_set 44 = .ok (.iconst 1, 1) := by decide +kernel
theorem dX6_set_45 : decode cX6_set 45 = .ok (.isub, 1) := by decide +kernel
theorem dX6_set_46 : decode cX6_set 46 = .ok (.i2l, 1) := by decide +kernel
theorem dX6_set_47 : decode cX6_set 47 = .ok (.invokestatic 64, 3) := by decide +kernel
theorem dX6_set_50 : decode cX6_set 50 = .ok (.ifCond .ne 9, 3) := by decide +kernel
theorem dX6_set_53 : decode cX6_set 53 = .ok (.aload_n 0, 1) := by decide +kernel
theorem dX6_set_54 : decode cX6_set 54 = .ok (.iconst 2, 1) := by decide +kernel
theorem dX6_set_55 : decode cX6_set 55 = .ok (.invokevirtual 75, 3) := by decide +kernel
theorem dX6_set_58 : decode cX6_set 58 = .ok (.ireturn, 1) := by decide +kernel
theorem dX6_set_59 : decode cX6_set 59 = .ok (.aload_n 0, 1) := by decide +kernel
theorem dX6_set_60 : decode cX6_set 60 = .ok (.getfield 16, 3) := by decide +kernel
theorem dX6_set_63 : decode cX6_set 63 = .ok (.bipush 40, 2) := by decide +kernel
theorem dX6_set_65 : decode cX6_set 65 = .ok (.iload_n 1, 1) := by decide +kernel
theorem dX6_set_66 : decode cX6_set 66 = .ok (.imul, 1) := by decide +kernel
theorem dX6_set_67 : decode cX6_set 67 = .ok (.iload_n 2, 1) := by decide +kernel
theorem dX6_set_68 : decode cX6_set 68 = .ok (.iadd, 1) := by decide +kernel
theorem dX6_set_69 : decode cX6_set 69 = .ok (.aload_n 0, 1) := by decide +kernel
theorem dX6_set_70 : decode cX6_set 70 = .ok (.getfield 7, 3) := by decide +kernel
theorem dX6_set_73 : decode cX6_set 73 = .ok (.iload_n 1, 1) := by decide +kernel
theorem dX6_set_74 : decode cX6_set 74 = .ok (.iaload, 1) := by decide +kernel
theorem dX6_set_75 : decode cX6_set 75 = .ok (.ifCond .ne 8, 3) := by decide +kernel
theorem dX6_set_78 : decode cX6_set 78 = .ok (.iload_n 3, 1) := by decide +kernel
theorem dX6_set_79 : decode cX6_set 79 = .ok (.i2b, 1) := by decide +kernel
theorem dX6_set_80 : decode cX6_set 80 = .ok (.goto 19, 3) := by decide +kernel
theorem dX6_set_83 : decode cX6_set 83 = .ok (.aload_n 0, 1) := by decide +kernel
theorem dX6_set_84 : decode cX6_set 84 = .ok (.getfield 7, 3) := by decide +kernel
theorem dX6_set_87 : decode cX6_set 87 = .ok (.iload_n 1, 1) := by decide +kernel
theorem dX6_set_88 : decode cX6_set 88 = .ok (.iaload, 1) := by decide +kernel
theorem dX6_set_89 : decode cX6_set 89 = .ok (.iconst 1, 1) := by decide +kernel
theorem dX6_set_90 : decode cX6_set 90 = .ok (.if_icmp .ne 8, 3) := by decide +kernel
theorem dX6_set_93 : decode cX6_set 93 = .ok (.iload_n 3, 1) := by decide +kernel
theorem dX6_set_94 : decode cX6_set 94 = .ok (.i2s, 1) := by decide +kernel
theorem dX6_set_95 : decode cX6_set 95 = .ok (.goto 4, 3) := by decide +kernel
theorem dX6_set_98 : decode cX6_set 98 = .ok (.iload_n 3, 1) := by decide +kernel
theorem dX6_set_99 : decode cX6_set 99 = .ok (.iastore, 1) := by decide +kernel
theorem dX6_set_100 : decode cX6_set 100 = .ok (.aload_n 0, 1) := by decide +kernel
theorem dX6_set_101 : decode cX6_set 101 = .ok (.getfield 16, 3) := by decide +kernel
theorem dX6_set_104 : decode cX6_set 104 = .ok (.bipush 40, 2) := by decide +kernel
theorem dX6_set_106 : decode cX6_set 106 = .ok (.iload_n 1, 1) := by decide +kernel
theorem dX6_set_107 : decode cX6_set 107 = .ok (.imul, 1) := by decide +kernel
theorem dX6_set_108 : decode cX6_set 108 = .ok (.iload_n 2, 1) := by decide +kernel
theorem dX6_set_109 : decode cX6_set 109 = .ok (.iadd, 1) := by decide +kernel
theorem dX6_set_110 : decode cX6_set 110 = .ok (.iaload, 1) := by decide +kernel
theorem dX6_set_111 : decode cX6_set 111 = .ok (.ireturn, 1) := by decide +kernel
theorem dX6_copy_0 : decode cX6_copy 0 = .ok (.aload_n 0, 1) := by decide +kernel
theorem dX6_copy_1 : decode cX6_copy 1 = .ok (.iconst 0, 1) := by decide +kernel
theorem dX6_copy_2 : decode cX6_copy 2 = .ok (.putfield 54, 3) := by decide +kernel
theorem dX6_copy_5 : decode cX6_copy 5 = .ok (.iload_n 1, 1) := by decide +kernel
theorem dX6_copy_6 : decode cX6_copy 6 = .ok (.invokestatic 68, 3) := by decide +kernel
theorem dX6_copy_9 : decode cX6_copy 9 = .ok (.ifCond .eq 10, 3) := by decide +kernel
theorem dX6_copy_12 : decode cX6_copy 12 = .ok (.iload_n 3, 1) := by decide +kernel
theorem dX6_copy_13 : decode cX6_copy 13 = .ok (.invokestatic 68, 3) := by decide +kernel
theorem dX6_copy_16 : decode cX6_copy 16 = .ok (.ifCond .ne 6, 3) := by decide +kernel
theorem dX6_copy_19 : decode cX6_copy 19 = .ok (.ldc 74, 2) := by decide +kernel
theorem dX6_copy_21 : decode cX6_copy 21 = .ok (.ireturn, 1) := by decide +kernel
theorem dX6_copy_22 : decode cX6_copy 22 = .ok (.aload_n 0, 1) := by decide +kernel
theorem dX6_copy_23 : decode cX6_copy 23 = .ok (.iconst 0, 1) := by decide +kernel
theorem dX6_copy_24 : decode cX6_copy 24 = .ok (.putfield 58, 3) := by decide +kernel
theorem dX6_copy_27 : decode cX6_copy 27 = .ok (.aload_n 0, 1) := by decide +kernel
theorem dX6_copy_28 : decode cX6_copy 28 = .ok (.getfield 7, 3) := by decide +kernel
theorem dX6_copy_31 : decode cX6_copy 31 = .ok (.iload_n 1, 1) := by decide +kernel
theorem dX6_copy_32 : decode cX6_copy 32 = .ok (.iaload, 1) := by decide +kernel
theorem dX6_copy_33 : decode cX6_copy 33 = .ok (.ifCond .lt 12, 3) := by decide +kernel
theorem dX6_copy_36 : decode cX6_copy 36 = .ok (.aload_n 0, 1) := by decide +kernel
theorem dX6_copy_37 : decode cX6_copy 37 = .ok (.getfield 7, 3) := by decide +kernel
theorem dX6_copy_40 : decode cX6_copy 40 = .ok (.iload_n 3, 1) := by decide +kernel
theorem dX6_copy_41 : decode cX6_copy 41 = .ok (.iaload, 1) := by decide +kernel
theorem dX6_copy_42 : decode cX6_copy 42 = .ok (.ifCond .ge 9, 3) := by decide +kernel
theorem dX6_copy_45 : decode cX6_copy 45 = .ok (.aload_n 0, 1) := by decide +kernel
theorem dX6_copy_46 : decode cX6_copy 46 = .ok (.iconst 1, 1) := by decide +kernel
theorem dX6_copy_47 : decode cX6_copy 47 = .ok (.invokevirtual 75, 3) := by decide +kernel
theorem dX6_copy_50 : decode cX6_copy 50 = .ok (.ireturn, 1) := by decide +kernel
theorem dX6_copy_51 : decode cX6_copy 51 = .ok (.aload_n 0, 1) := by decide +kernel
theorem dX6_copy_52 : decode cX6_copy 52 = .ok (.getfield 7, 3) := by decide +kernel
theorem dX6_copy_55 : decode cX6_copy 55 = .ok (.iload_n 1, 1) := by decide +kernel
theorem dX6_copy_56 : decode cX6_copy 56 = .ok (.iaload, 1) := by decide +kernel
theorem dX6_copy_57 : decode cX6_copy 57 = .ok (.aload_n 0, 1) := by decide +kernel
theorem dX6_copy_58 : decode cX6_copy 58 = .ok (.getfield 7, 3) := by decide +kernel
theorem dX6_copy_61 : decode cX6_copy 61 = .ok (.iload_n 3, 1) := by decide +kernel
theorem dX6_copy_62 : decode cX6_copy 62 = .ok (.iaload, 1) := by decide +kernel
theorem dX6_copy_63 : decode cX6_copy 63 = .ok (.if_icmp .eq 9, 3) := by decide +kernel
theorem dX6_copy_66 : decode cX6_copy 66 = .ok (.aload_n 0, 1) := by decide +kernel
theorem dX6_copy_67 : decode cX6_copy 67 = .ok (.iconst 5, 1) := by decide +kernel
theorem dX6_copy_68 : decode cX6_copy 68 = .ok (.invokevirtual 75, 3) := by decide +kernel
theorem dX6_copy_71 : decode cX6_copy 71 = .ok (.ireturn, 1) := by decide +kernel
theorem dX6_copy_72 : decode cX6_copy 72 = .ok (.iload_n 2, 1) := by decide +kernel
theorem dX6_copy_73 : decode cX6_copy 73 = .ok (.ifCond .lt 48, 3) := by decide +kernel
theorem dX6_copy_76 : decode cX6_copy 76 = .ok (.iload 4, 2) := by decide +kernel
theorem dX6_copy_78 : decode cX6_copy 78 = .ok (.ifCond .lt 43, 3) := by decide +kernel
theorem dX6_copy_81 : decode cX6_copy 81 = .ok (.iload 5, 2) := by decide +kernel
theorem dX6_copy_83 : decode cX6_copy 83 = .ok (.ifCond .lt 38, 3) := by decide +kernel
theorem dX6_copy_86 : decode cX6_copy 86 = .ok (.iload_n 2, 1) := by decide +kernel
theorem dX6_copy_87 : decode cX6_copy 87 = .ok (.i2l, 1) := by decide +kernel
theorem dX6_copy_88 : decode cX6_copy 88 = .ok (.iload 5, 2) := by decide +kernel
theorem dX6_copy_90 : decode cX6_copy 90 = .ok (.i2l, 1) := by decide +kernel
theorem dX6_copy_91 : decode cX6_copy 91 = .ok (.ladd, 1) := by decide +kernel
theorem dX6_copy_92 : decode cX6_copy 92 = .ok (.aload_n 0, 1) := by decide +kernel
theorem dX6_copy_93 : decode cX6_copy 93 = .ok (.getfield 13, 3) := by decide +kernel
theorem dX6_copy_96 : decode cX6_copy 96 = .ok (.iload_n 1, 1) := by decide +kernel
theorem dX6_copy_97 : decode cX6_copy 97 = .ok (.iaload, 1) := by decide +kernel
theorem dX6_copy_98 : decode cX6_copy 98 = .ok (.i2l, 1) := by decide +kernel
theorem dX6_copy_99 : decode cX6_copy 99 = .ok (.lcmp, 1) := by decide +kernel
theorem dX6_copy_100 : decode cX6_copy 100 = .ok (.ifCond .gt 21, 3) := by decide +kernel
theorem dX6_copy_103 : decode cX6_copy 103 = .ok (.iload 4, 2) := by decide +kernel
theorem dX6_copy_105 : decode cX6_copy 105 = .ok (.i2l, 1) := by decide +kernel
theorem dX6_copy_106 : decode cX6_copy 106 = .ok (.iload 5, 2) := by decide +kernel
theorem dX6_copy_108 : decode cX6_copy 108 = .ok (.i2l, 1) := by decide +kernel
theorem dX6_copy_109 : decode cX6_copy 109 = .ok (.ladd, 1) := by decide +kernel
theorem dX6_copy_110 : decode cX6_copy 110 = .ok (.aload_n 0, 1) := by decide +kernel
theorem dX6_copy_111 : decode cX6_copy 111 = .ok (.getfield 13, 3) := by decide +kernel
theorem dX6_copy_114 : decode cX6_copy 114 = .ok (.iload_n 3, 1) := by decide +kernel
theorem dX6_copy_115 : decode cX6_copy 115 = .ok (.iaload, 1) := by decide +kernel
theorem dX6_copy_116 : decode cX6_copy 116 = .ok (.i2l, 1) := by decide +kernel
theorem dX6_copy_117 : decode cX6_copy 117 = .ok (.lcmp, 1) := by decide +kernel
theorem dX6_copy_118 : decode cX6_copy 118 = .ok (.ifCond .le 9, 3) := by decide +kernel
theorem dX6_copy_121 : decode cX6_copy 121 = .ok (.aload_n 0, 1) := by decide +kernel
theorem dX6_copy_122 : decode cX6_copy 122 = .ok (.iconst 2, 1) := by decide +kernel
theorem dX6_copy_123 : decode cX6_copy 123 = .ok (.invokevirtual 75, 3) := by decide +kernel
theorem dX6_copy_126 : decode cX6_copy 126 = .ok (.ireturn, 1) := by decide +kernel
theorem dX6_copy_127 : decode cX6_copy 127 = .ok (.iload_n 2, 1) := by decide +kernel
theorem dX6_copy_128 : decode cX6_copy 128 = .ok (.iload 4, 2) := by decide +kernel
theorem dX6_copy_130 : decode cX6_copy 130 = .ok (.if_icmp .lt 7, 3) := by decide +kernel
theorem dX6_copy_133 : decode cX6_copy 133 = .ok (.iconst 1, 1) := by decide +kernel
theorem dX6_copy_134 : decode cX6_copy 134 = .ok (.goto 4, 3) := by decide +kernel
theorem dX6_copy_137 : decode cX6_copy 137 = .ok (.iconst 0, 1) := by decide +kernel
theorem dX6_copy_138 : decode cX6_copy 138 = .ok (.istore 6, 2) := by decide +kernel
theorem dX6_copy_140 : decode cX6_copy 140 = .ok (.iconst 0, 1) := by decide +kernel
theorem dX6_copy_141 : decode cX6_copy 141 = .ok (.istore 7, 2) := by decide +kernel
theorem dX6_copy_143 : decode cX6_copy 143 = .ok (.iload 7, 2) := by decide +kernel
theorem dX6_copy_145 : decode cX6_copy 145 = .ok (.iload 5, 2) := by decide +kernel
theorem dX6_copy_147 : decode cX6_copy 147 = .ok (.if_icmp .ge 57, 3) := by decide +kernel
theorem dX6_copy_150 : decode cX6_copy 150 = .ok (.iload 6, 2) := by decide +kernel
theorem dX6_copy_152 : decode cX6_copy 152 = .ok (.ifCond .eq 8, 3) := by decide +kernel
theorem dX6_copy_155 : decode cX6_copy 155 = .ok (.iload 7, 2) := by decide +kernel
theorem dX6_copy_157 : decode cX6_copy 157 = .ok (.goto 10, 3) := by decide +kernel
theorem dX6_copy_160 : decode cX6_copy 160 = .ok (.iload 5, 2) := by decide +kernel
theorem dX6_copy_162 : decode cX6_copy 162 = .ok (.iconst 1, 1) := by decide +kernel
theorem dX6_copy_163 : decode cX6_copy 163 = .ok (.isub, 1) := by decide +kernel
theorem dX6_copy_164 : decode cX6_copy 164 = .ok (.iload 7, 2) := by decide +kernel
theorem dX6_copy_166 : decode cX6_copy 166 = .ok (.isub, 1) := by decide +kernel
theorem dX6_copy_167 : decode cX6_copy 167 = .ok (.istore 8, 2) := by decide +kernel
theorem dX6_copy_169 : decode cX6_copy 169 = .ok (.aload_n 0, 1) := by decide +kernel
theorem dX6_copy_170 : decode cX6_copy 170 = .ok (.getfield 16, 3) := by decide +kernel
theorem dX6_copy_173 : decode cX6_copy 173 = .ok (.bipush 40, 2) := by decide +kernel
theorem dX6_copy_175 : decode cX6_copy 175 = .ok (.iload_n 3, 1) := by decide +kernel
theorem dX6_copy_176 : decode cX6_copy 176 = .ok (.imul, 1) := by decide +kernel
theorem dX6_copy_177 : decode cX6_copy 177 = .ok (.iload 4, 2) := by decide +kernel
theorem dX6_copy_179 : decode cX6_copy 179 = .ok (.iadd, 1) := by decide +kernel
theorem dX6_copy_180 : decode cX6_copy 180 = .ok (.iload 8, 2) := by decide +kernel
theorem dX6_copy_182 : decode cX6_copy 182 = .ok (.iadd, 1) := by decide +kernel
theorem dX6_copy_183 : decode cX6_copy 183 = .ok (.aload_n 0, 1) := by decide +kernel
theorem dX6_copy_184 : decode cX6_copy 184 = .ok (.getfield 16, 3) := by decide +kernel
theorem dX6_copy_187 : decode cX6_copy 187 = .ok (.bipush 40, 2) := by decide +kernel
theorem dX6_copy_189 : decode cX6_copy 189 = .ok (.iload_n 1, 1) := by decide +kernel
theorem dX6_copy_190 : decode cX6_copy 190 = .ok (.imul, 1) := by decide +kernel
theorem dX6_copy_191 : decode cX6_copy 191 = .ok (.iload_n 2, 1) := by decide +kernel
theorem dX6_copy_192 : decode cX6_copy 192 = .ok (.iadd, 1) := by decide +kernel
theorem dX6_copy_193 : decode cX6_copy 193 = .ok (.iload 8, 2) := by decide +kernel
theorem dX6_copy_195 : decode cX6_copy 195 = .ok (.iadd, 1) := by decide +kernel
theorem dX6_copy_196 : decode cX6_copy 196 = .ok (.iaload, 1) := by decide +kernel
theorem dX6_copy_197 : decode cX6_copy 197 = .ok (.iastore, 1) := by decide +kernel
theorem dX6_copy_198 : decode cX6_copy 198 = .ok (.iinc 7 1, 3) := by decide +kernel
theorem dX6_copy_201 : decode cX6_copy 201 = .ok (.goto (-58), 3) := by decide +kernel
theorem dX6_copy_204 : decode cX6_copy 204 = .ok (.iload 5, 2) := by decide +kernel
theorem dX6_copy_206 : decode cX6_copy 206 = .ok (.ireturn, 1) := by decide +kernel
theorem dX6_drop_0 : decode cX6_drop 0 = .ok (.aload_n 0, 1) := by decide +kernel
theorem dX6_drop_1 : decode cX6_drop 1 = .ok (.iconst 0, 1) := by decide +kernel
theorem dX6_drop_2 : decode cX6_drop 2 = .ok (.putfield 54, 3) := by decide +kernel
theorem dX6_drop_5 : decode cX6_drop 5 = .ok (.iload_n 1, 1) := by decide +kernel
theorem dX6_drop_6 : decode cX6_drop 6 = .ok (.invokestatic 68, 3) := by decide +kernel
theorem dX6_drop_9 : decode cX6_drop 9 = .ok (.ifCond .ne 6, 3) := by decide +kernel
theorem dX6_drop_12 : decode cX6_drop 12 = .ok (.ldc 74, 2) := by decide +kernel
theorem dX6_drop_14 : decode cX6_drop 14 = .ok (.ireturn, 1) := by decide +kernel
theorem dX6_drop_15 : decode cX6_drop 15 = .ok (.aload_n 0, 1) := by decide +kernel
theorem dX6_drop_16 : decode cX6_drop 16 = .ok (.iconst 0, 1) := by decide +kernel
theorem dX6_drop_17 : decode cX6_drop 17 = .ok (.putfield 58, 3) := by decide +kernel
theorem dX6_drop_20 : decode cX6_drop 20 = .ok (.aload_n 0, 1) := by decide +kernel
theorem dX6_drop_21 : decode cX6_drop 21 = .ok (.getfield 7, 3) := by decide +kernel
theorem dX6_drop_24 : decode cX6_drop 24 = .ok (.iload_n 1, 1) := by decide +kernel
theorem dX6_drop_25 : decode cX6_drop 25 = .ok (.iaload, 1) := by decide +kernel
theorem dX6_drop_26 : decode cX6_drop 26 = .ok (.ifCond .ge 9, 3) := by decide +kernel
theorem dX6_drop_29 : decode cX6_drop 29 = .ok (.aload_n 0, 1) := by decide +kernel
theorem dX6_drop_30 : decode cX6_drop 30 = .ok (.iconst 1, 1) := by decide +kernel
theorem dX6_drop_31 : decode cX6_drop 31 = .ok (.invokevirtual 75, 3) := by decide +kernel
theorem dX6_drop_34 : decode cX6_drop 34 = .ok (.ireturn, 1) := by decide +kernel
theorem dX6_drop_35 : decode cX6_drop 35 = .ok (.aload_n 0, 1) := by decide +kernel
theorem dX6_drop_36 : decode cX6_drop 36 = .ok (.getfield 7, 3) := by decide +kernel
theorem dX6_drop_39 : decode cX6_drop 39 = .ok (.iload_n 1, 1) := by decide +kernel
theorem dX6_drop_40 : decode cX6_drop 40 = .ok (.iconst (-1), 1) := by decide +kernel
theorem dX6_drop_41 : decode cX6_drop 41 = .ok (.iastore, 1) := by decide +kernel
theorem dX6_drop_42 : decode cX6_drop 42 = .ok (.aload_n 0, 1) := by decide +kernel
theorem dX6_drop_43 : decode cX6_drop 43 = .ok (.getfield 13, 3) := by decide +kernel
theorem dX6_drop_46 : decode cX6_drop 46 = .ok (.iload_n 1, 1) := by decide +kernel
theorem dX6_drop_47 : decode cX6_drop 47 = .ok (.iaload, 1) := by decide +kernel
theorem dX6_drop_48 : decode cX6_drop 48 = .ok (.ireturn, 1) := by decide +kernel
theorem dX6_feed_0 : decode cX6_feed 0 = .ok (.aload_n 0, 1) := by decide +kernel
theorem dX6_feed_1 : decode cX6_feed 1 = .ok (.iconst 0, 1) := by decide +kernel
theorem dX6_feed_2 : decode cX6_feed 2 = .ok (.putfield 54, 3) := by decide +kernel
theorem dX6_feed_5 : decode cX6_feed 5 = .ok (.iload_n 1, 1) := by decide +kernel
theorem dX6_feed_6 : decode cX6_feed 6 = .ok (.i2l, 1) := by decide +kernel
theorem dX6_feed_7 : decode cX6_feed 7 = .ok (.lconst 0, 1) := by decide +kernel
theorem dX6_feed_8 : decode cX6_feed 8 = .ok (.ldc2_w 79, 3) := by decide +kernel
theorem dX6_feed_11 : decode cX6_feed 11 = .ok (.invokestatic 64, 3) := by decide +kernel
theorem dX6_feed_14 : decode cX6_feed 14 = .ok (.ifCond .ne 6, 3) := by decide +kernel
theorem dX6_feed_17 : decode cX6_feed 17 = .ok (.ldc 74, 2) := by decide +kernel
theorem dX6_feed_19 : decode cX6_feed 19 = .ok (.ireturn, 1) := by decide +kernel
theorem dX6_feed_20 : decode cX6_feed 20 = .ok (.aload_n 0, 1) := by decide +kernel
theorem dX6_feed_21 : decode cX6_feed 21 = .ok (.getfield 81, 3) := by decide +kernel
theorem dX6_feed_24 : decode cX6_feed 24 = .ok (.bipush 120, 2) := by decide +kernel
theorem dX6_feed_26 : decode cX6_feed 26 = .ok (.if_icmp .ne 6, 3) := by decide +kernel
theorem dX6_feed_29 : decode cX6_feed 29 = .ok (.ldc 84, 2) := by decide +kernel
theorem dX6_feed_31 : decode cX6_feed 31 = .ok (.ireturn, 1) := by decide +kernel
theorem dX6_feed_32 : decode cX6_feed 32 = .ok (.aload_n 0, 1) := by decide +kernel
theorem dX6_feed_33 : decode cX6_feed 33 = .ok (.getfield 31, 3) := by decide +kernel
theorem dX6_feed_36 : decode cX6_feed 36 = .ok (.aload_n 0, 1) := by decide +kernel
theorem dX6_feed_37 : decode cX6_feed 37 = .ok (.getfield 81, 3) := by decide +kernel
theorem dX6_feed_40 : decode cX6_feed 40 = .ok (.iload_n 1, 1) := by decide +kernel
theorem dX6_feed_41 : decode cX6_feed 41 = .ok (.iastore, 1) := by decide +kernel
theorem dX6_feed_42 : decode cX6_feed 42 = .ok (.aload_n 0, 1) := by decide +kernel
theorem dX6_feed_43 : decode cX6_feed 43 = .ok (.dup, 1) := by decide +kernel
theorem dX6_feed_44 : decode cX6_feed 44 = .ok (.getfield 81, 3) := by decide +kernel
theorem dX6_feed_47 : decode cX6_feed 47 = .ok (.iconst 1, 1) := by decide +kernel
theorem dX6_feed_48 : decode cX6_feed 48 = .ok (.iadd, 1) := by decide +kernel
theorem dX6_feed_49 : decode cX6_feed 49 = .ok (.putfield 81, 3) := by decide +kernel
theorem dX6_feed_52 : decode cX6_feed 52 = .ok (.aload_n 0, 1) := by decide +kernel
theorem dX6_feed_53 : decode cX6_feed 53 = .ok (.getfield 81, 3) := by decide +kernel
theorem dX6_feed_56 : decode cX6_feed 56 = .ok (.ireturn, 1) := by decide +kernel
theorem dX6_bad_0 : decode cX6_bad 0 = .ok (.aload_n 0, 1) := by decide +kernel
theorem dX6_bad_1 : decode cX6_bad 1 = .ok (.getfield 85, 3) := by decide +kernel
theorem dX6_bad_4 : decode cX6_bad 4 = .ok (.ifCond .ne 16, 3) := by decide +kernel
theorem dX6_bad_7 : decode cX6_bad 7 = .ok (.aload_n 0, 1) := by decide +kernel
theorem dX6_bad_8 : decode cX6_bad 8 = .ok (.iload_n 1, 1) := by decide +kernel
theorem dX6_bad_9 : decode cX6_bad 9 = .ok (.putfield 85, 3) := by decide +kernel
theorem dX6_bad_12 : decode cX6_bad 12 = .ok (.aload_n 0, 1) := by decide +kernel
theorem dX6_bad_13 : decode cX6_bad 13 = .ok (.aload_n 0, 1) := by decide +kernel
theorem dX6_bad_14 : decode cX6_bad 14 = .ok (.getfield 88, 3) := by decide +kernel
theorem dX6_bad_17 : decode cX6_bad 17 = .ok (.putfield 91, 3) := by decide +kernel
theorem dX6_bad_20 : decode cX6_bad 20 = .ok (.return_, 1) := by decide +kernel
theorem dX6_nextToken_0 : decode cX6_nextToken 0 = .ok (.aload_n 0, 1) := by decide +kernel
theorem dX6_nextToken_1 : decode cX6_nextToken 1 = .ok (.aload_n 0, 1) := by decide +kernel
theorem dX6_nextToken_2 : decode cX6_nextToken 2 = .ok (.getfield 94, 3) := by decide +kernel
theorem dX6_nextToken_5 : decode cX6_nextToken 5 = .ok (.putfield 88, 3) := by decide +kernel
theorem dX6_nextToken_8 : decode cX6_nextToken 8 = .ok (.aload_n 0, 1) := by decide +kernel
theorem dX6_nextToken_9 : decode cX6_nextToken 9 = .ok (.aload_n 0, 1) := by decide +kernel
theorem dX6_nextToken_10 : decode cX6_nextToken 10 = .ok (.getfield 94, 3) := by decide +kernel
theorem dX6_nextToken_13 : decode cX6_nextToken 13 = .ok (.aload_n 0, 1) := by decide +kernel
theorem dX6_nextToken_14 : decode cX6_nextToken 14 = .ok (.getfield 81, 3) := by decide +kernel
theorem dX6_nextToken_17 : decode cX6_nextToken 17 = .ok (.if_icmp .ge 15, 3) := by decide +kernel
theorem dX6_nextToken_20 : decode cX6_nextToken 20 = .ok (.aload_n 0, 1) := by decide +kernel
theorem dX6_nextToken_21 : decode cX6_nextToken 21 = .ok (.getfield 31, 3) := by decide +kernel
theorem dX6_nextToken_24 : decode cX6_nextToken 24 = .ok (.aload_n 0, 1) := by decide +kernel
theorem dX6_nextToken_25 : decode cX6_nextToken 25 = .ok (.getfield 94, 3) := by decide +kernel
theorem dX6_nextToken_28 : decode cX6_nextToken 28 = .ok (.iaload, 1) := by decide +kernel
theorem dX6_nextToken_29 : decode cX6_nextToken 29 = .ok (.goto 5, 3) := by decide +kernel
theorem dX6_nextToken_32 : decode cX6_nextToken 32 = .ok (.ldc 97, 2) := by decide +kernel
theorem dX6_nextToken_34 : decode cX6_nextToken 34 = .ok (.putfield 98, 3) := by decide +kernel
theorem dX6_nextToken_37 : decode cX6_nextToken 37 = .ok (.aload_n 0, 1) := by decide +kernel
theorem dX6_nextToken_38 : decode cX6_nextToken 38 = .ok (.aload_n 0, 1) := by decide +kernel
theorem dX6_nextToken_39 : decode cX6_nextToken 39 = .ok (.getfield 94, 3) := by decide +kernel
theorem dX6_nextToken_42 : decode cX6_nextToken 42 = .ok (.aload_n 0, 1) := by decide +kernel
theorem dX6_nextToken_43 : decode cX6_nextToken 43 = .ok (.getfield 81, 3) := by decide +kernel
theorem dX6_nextToken_46 : decode cX6_nextToken 46 = .ok (.if_icmp .ne 7, 3) := by decide +kernel
theorem dX6_nextToken_49 : decode cX6_nextToken 49 = .ok (.iconst 1, 1) := by decide +kernel
theorem dX6_nextToken_50 : decode cX6_nextToken 50 = .ok (.goto 68, 3) := by decide +kernel
theorem dX6_nextToken_53 : decode cX6_nextToken 53 = .ok (.aload_n 0, 1) := by decide +kernel
theorem dX6_nextToken_54 : decode cX6_nextToken 54 = .ok (.getfield 98, 3) := by decide +kernel
theorem dX6_nextToken_57 : decode cX6_nextToken 57 = .ok (.i2l, 1) := by decide +kernel
theorem dX6_nextToken_58 : decode cX6_nextToken 58 = .ok (.ldc2_w 101, 3) := by decide +kernel
theorem dX6_nextToken_61 : decode cX6_nextToken 61 = .ok (.ldc2_w 103, 3) := by decide +kernel
theorem dX6_nextToken_64 : decode cX6_nextToken 64 = .ok (.invokestatic 64, 3) := by decide +kernel
theorem dX6_nextToken_67 : decode cX6_nextToken 67 = .ok (.ifCond .eq 7, 3) := by decide +kernel
theorem dX6_nextToken_70 : decode cX6_nextToken 70 = .ok (.iconst 2, 1) := by decide +kernel
theorem dX6_nextToken_71 : decode cX6_nextToken 71 = .ok (.goto 47, 3) := by decide +kernel
theorem dX6_nextToken_74 : decode cX6_nextToken 74 = .ok (.aload_n 0, 1) := by decide +kernel
theorem dX6_nextToken_75 : decode cX6_nextToken 75 = .ok (.getfield 98, 3) := by decide +kernel
theorem dX6_nextToken_78 : decode cX6_nextToken 78 = .ok (.i2l, 1) := by decide +kernel
theorem dX6_nextToken_79 : decode cX6_nextToken 79 = .ok (.ldc2_w 105, 3) := by decide +kernel
theorem dX6_nextToken_82 : decode cX6_nextToken 82 = .ok (.ldc2_w 107, 3) := by decide +kernel
theorem dX6_nextToken_85 : decode cX6_nextToken 85 = .ok (.invokestatic 64, 3) := by decide +kernel
theorem dX6_nextToken_88 : decode cX6_nextToken 88 = .ok (.ifCond .eq 7, 3) := by decide +kernel
theorem dX6_nextToken_91 : decode cX6_nextToken 91 = .ok (.iconst 3, 1) := by decide +kernel
theorem dX6_nextToken_92 : decode cX6_nextToken 92 = .ok (.goto 26, 3) := by decide +kernel
theorem dX6_nextToken_95 : decode cX6_nextToken 95 = .ok (.aload_n 0, 1) := by decide +kernel
theorem dX6_nextToken_96 : decode cX6_nextToken 96 = .ok (.getfield 98, 3) := by decide +kernel
theorem dX6_nextToken_99 : decode cX6_nextToken 99 = .ok (.bipush 44, 2) := by decide +kernel
theorem dX6_nextToken_101 : decode cX6_nextToken 101 = .ok (.if_icmp .eq 12, 3) := by decide +kernel
theorem dX6_nextToken_104 : decode cX6_nextToken 104 = .ok (.aload_n 0, 1) := by decide +kernel
theorem dX6_nextToken_105 : decode cX6_nextToken 105 = .ok (.getfield 98, 3) := by decide +kernel
theorem dX6_nextToken_108 : decode cX6_nextToken 108 = .ok (.bipush 59, 2) := by decide +kernel
theorem dX6_nextToken_110 : decode cX6_nextToken 110 = .ok (.if_icmp .ne 7, 3) := by decide +kernel
theorem dX6_nextToken_113 : decode cX6_nextToken 113 = .ok (.iconst 4, 1) := by decide +kernel
theorem dX6_nextToken_114 : decode cX6_nextToken 114 = .ok (.goto 4, 3) := by decide +kernel
theorem dX6_nextToken_117 : decode cX6_nextToken 117 = .ok (.iconst 0, 1) := by decide +kernel
theorem dX6_nextToken_118 : decode cX6_nextToken 118 = .ok (.putfield 109, 3) := by decide +kernel
theorem dX6_nextToken_121 : decode cX6_nextToken 121 = .ok (.aload_n 0, 1) := by decide +kernel
theorem dX6_nextToken_122 : decode cX6_nextToken 122 = .ok (.dup, 1) := by decide +kernel
theorem dX6_nextToken_123 : decode cX6_nextToken 123 = .ok (.getfield 94, 3) := by decide +kernel
theorem dX6_nextToken_126 : decode cX6_nextToken 126 = .ok (.aload_n 0, 1) := by decide +kernel
theorem dX6_nextToken_127 : decode cX6_nextToken 127 = .ok (.getfield 94, 3) := by decide +kernel
theorem dX6_nextToken_130 : decode cX6_nextToken 130 = .ok (.aload_n 0, 1) := by decide +kernel
theorem dX6_nextToken_131 : decode cX6_nextToken 131 = .ok (.getfield 81, 3) := by decide +kernel
theorem dX6_nextToken_134 : decode cX6_nextToken 134 = .ok (.if_icmp .ge 7, 3) := by decide +kernel
theorem dX6_nextToken_137 : decode cX6_nextToken 137 = .ok (.iconst 1, 1) := by decide +kernel
theorem dX6_nextToken_138 : decode cX6_nextToken 138 = .ok (.goto 4, 3) := by decide +kernel
theorem dX6_nextToken_141 : decode cX6_nextToken 141 = .ok (.iconst 0, 1) := by decide +kernel
theorem dX6_nextToken_142 : decode cX6_nextToken 142 = .ok (.iadd, 1) := by decide +kernel
theorem dX6_nextToken_143 : decode cX6_nextToken 143 = .ok (.putfield 94, 3) := by decide +kernel
theorem dX6_nextToken_146 : decode cX6_nextToken 146 = .ok (.aload_n 0, 1) := by decide +kernel
theorem dX6_nextToken_147 : decode cX6_nextToken 147 = .ok (.getfield 109, 3) := by decide +kernel
theorem dX6_nextToken_150 : decode cX6_nextToken 150 = .ok (.iconst 3, 1) := by decide +kernel
theorem dX6_nextToken_151 : decode cX6_nextToken 151 = .ok (.if_icmp .ne 126, 3) := by decide +kernel
theorem dX6_nextToken_154 : decode cX6_nextToken 154 = .ok (.aload_n 0, 1) := by decide +kernel
theorem dX6_nextToken_155 : decode cX6_nextToken 155 = .ok (.dup, 1) := by decide +kernel
theorem dX6_nextToken_156 : decode cX6_nextToken 156 = .ok (.getfield 98, 3) := by decide +kernel
theorem dX6_nextToken_159 : decode cX6_nextToken 159 = .ok (.bipush 48, 2) := by decide +kernel
theorem dX6_nextToken_161 : decode cX6_nextToken 161 = .ok (.isub, 1) := by decide +kernel
theorem dX6_nextToken_162 : decode cX6_nextToken 162 = .ok (.putfield 98, 3) := by decide +kernel
theorem dX6_nextToken_165 : decode cX6_nextToken 165 = .ok (.aload_n 0, 1) := by decide +kernel
theorem dX6_nextToken_166 : decode cX6_nextToken 166 = .ok (.getfield 94, 3) := by decide +kernel
theorem dX6_nextToken_169 : decode cX6_nextToken 169 = .ok (.aload_n 0, 1) := by decide +kernel
theorem dX6_nextToken_170 : decode cX6_nextToken 170 = .ok (.getfield 81, 3) := by decide +kernel
theorem dX6_nextToken_173 : decode cX6_nextToken 173 = .ok (.if_icmp .ge 82, 3) := by decide +kernel
theorem dX6_nextToken_176 : decode cX6_nextToken 176 = .ok (.aload_n 0, 1) := by decide +kernel
theorem dX6_nextToken_177 : decode cX6_nextToken 177 = .ok (.getfield 31, 3) := by decide +kernel
theorem dX6_nextToken_180 : decode cX6_nextToken 180 = .ok (.aload_n 0, 1) := by decide +kernel
theorem dX6_nextToken_181 : decode cX6_nextToken 181 = .ok (.getfield 94, 3) := by decide +kernel
theorem dX6_nextToken_184 : decode cX6_nextToken 184 = .ok (.iaload, 1) := by decide +kernel
theorem dX6_nextToken_185 : decode cX6_nextToken 185 = .ok (.i2l, 1) := by decide +kernel
theorem dX6_nextToken_186 : decode cX6_nextToken 186 = .ok (.ldc2_w 105, 3) := by decide +kernel
theorem dX6_nextToken_189 : decode cX6_nextToken 189 = .ok (.ldc2_w 107, 3) := by decide +kernel
theorem dX6_nextToken_192 : decode cX6_nextToken 192 = .ok (.invokestatic 64, 3) := by decide +kernel
theorem dX6_nextToken_195 : decode cX6_nextToken 195 = .ok (.ifCond .eq 60, 3) := by decide +kernel
theorem dX6_nextToken_198 : decode cX6_nextToken 198 = .ok (.aload_n 0, 1) := by decide +kernel
theorem dX6_nextToken_199 : decode cX6_nextToken 199 = .ok (.aload_n 0, 1) := by decide +kernel
theorem dX6_nextToken_200 : decode cX6_nextToken 200 = .ok (.getfield 94, 3) := by decide +kernel
theorem dX6_nextToken_203 : decode cX6_nextToken 203 = .ok (.aload_n 0, 1) := by decide +kernel
theorem dX6_nextToken_204 : decode cX6_nextToken 204 = .ok (.getfield 88, 3) := by decide +kernel
theorem dX6_nextToken_207 : decode cX6_nextToken 207 = .ok (.isub, 1) := by decide +kernel
theorem dX6_nextToken_208 : decode cX6_nextToken 208 = .ok (.iconst 2, 1) := by decide +kernel
theorem dX6_nextToken_209 : decode cX6_nextToken 209 = .ok (.if_icmp .ge 26, 3) := by decide +kernel
theorem dX6_nextToken_212 : decode cX6_nextToken 212 = .ok (.bipush 10, 2) := by decide +kernel
theorem dX6_nextToken_214 : decode cX6_nextToken 214 = .ok (.aload_n 0, 1) := by decide +kernel
theorem dX6_nextToken_215 : decode cX6_nextToken 215 = .ok (.getfield 98, 3) := by decide +kernel
theorem dX6_nextToken_218 : decode cX6_nextToken 218 = .ok (.imul, 1) := by decide +kernel
theorem dX6_nextToken_219 : decode cX6_nextToken 219 = .ok (.aload_n 0, 1) := by decide +kernel
theorem dX6_nextToken_220 : decode cX6_nextToken 220 = .ok (.getfield 31, 3) := by decide +kernel
theorem dX6_nextToken_223 : decode cX6_nextToken 223 = .ok (.aload_n 0, 1) := by decide +kernel
theorem dX6_nextToken_224 : decode cX6_nextToken 224 = .ok (.getfield 94, 3) := by decide +kernel
theorem dX6_nextToken_227 : decode cX6_nextToken 227 = .ok (.iaload, 1) := by decide +kernel
theorem dX6_nextToken_228 : decode cX6_nextToken 228 = .ok (.iadd, 1) := by decide +kernel
theorem dX6_nextToken_229 : decode cX6_nextToken 229 = .ok (.bipush 48, 2) := by decide +kernel
theorem dX6_nextToken_231 : decode cX6_nextToken 231 = .ok (.isub, 1) := by decide +kernel
theorem dX6_nextToken_232 : decode cX6_nextToken 232 = .ok (.goto 7, 3) := by decide +kernel
theorem dX6_nextToken_235 : decode cX6_nextToken 235 = .ok (.aload_n 0, 1) := by decide +kernel
theorem dX6_nextToken_236 : decode cX6_nextToken 236 = .ok (.getfield 98, 3) := by decide +kernel
theorem dX6_nextToken_239 : decode cX6_nextToken 239 = .ok (.putfield 98, 3) := by decide +kernel
theorem dX6_nextToken_242 : decode cX6_nextToken 242 = .ok (.aload_n 0, 1) := by decide +kernel
theorem dX6_nextToken_243 : decode cX6_nextToken 243 = .ok (.dup, 1) := by decide +kernel
theorem dX6_nextToken_244 : decode cX6_nextToken 244 = .ok (.getfield 94, 3) := by decide +kernel
theorem dX6_nextToken_247 : decode cX6_nextToken 247 = .ok (.iconst 1, 1) := by decide +kernel
theorem dX6_nextToken_248 : decode cX6_nextToken 248 = .ok (.iadd, 1) := by decide +kernel
theorem dX6_nextToken_249 : decode cX6_nextToken 249 = .ok (.putfield 94, 3) := by decide +kernel
theorem dX6_nextToken_252 : decode cX6_nextToken 252 = .ok (.goto (-87), 3) := by decide +kernel
theorem dX6_nextToken_255 : decode cX6_nextToken 255 = .ok (.aload_n 0, 1) := by decide +kernel
theorem dX6_nextToken_256 : decode cX6_nextToken 256 = .ok (.aload_n 0, 1) := by decide +kernel
theorem dX6_nextToken_257 : decode cX6_nextToken 257 = .ok (.getfield 94, 3) := by decide +kernel
theorem dX6_nextToken_260 : decode cX6_nextToken 260 = .ok (.aload_n 0, 1) := by decide +kernel
theorem dX6_nextToken_261 : decode cX6_nextToken 261 = .ok (.getfield 88, 3) := by decide +kernel
theorem dX6_nextToken_264 : decode cX6_nextToken 264 = .ok (.isub, 1) := by decide +kernel
theorem dX6_nextToken_265 : decode cX6_nextToken 265 = .ok (.iconst 2, 1) := by decide +kernel
theorem dX6_nextToken_266 : decode cX6_nextToken 266 = .ok (.if_icmp .le 7, 3) := by decide +kernel
theorem dX6_nextToken_269 : decode cX6_nextToken 269 = .ok (.iconst 0, 1) := by decide +kernel
theorem dX6_nextToken_270 : decode cX6_nextToken 270 = .ok (.goto 4, 3) := by decide +kernel
theorem dX6_nextToken_273 : decode cX6_nextToken 273 = .ok (.iconst 3, 1) := by decide +kernel
theorem dX6_nextToken_274 : decode cX6_nextToken 274 = .ok (.putfield 109, 3) := by decide +kernel
theorem dX6_nextToken_277 : decode cX6_nextToken 277 = .ok (.return_, 1) := by decide +kernel
theorem dX6_must_0 : decode cX6_must 0 = .ok (.iload_n 1, 1) := by decide +kernel
theorem dX6_must_1 : decode cX6_must 1 = .ok (.ifCond .ne 8, 3) := by decide +kernel
theorem dX6_must_4 : decode cX6_must 4 = .ok (.aload_n 0, 1) := by decide +kernel
theorem dX6_must_5 : decode cX6_must 5 = .ok (.iconst 1, 1) := by decide +kernel
theorem dX6_must_6 : decode cX6_must 6 = .ok (.invokevirtual 112, 3) := by decide +kernel
theorem dX6_must_9 : decode cX6_must 9 = .ok (.aload_n 0, 1) := by decide +kernel
theorem dX6_must_10 : decode cX6_must 10 = .ok (.getfield 85, 3) := by decide +kernel
theorem dX6_must_13 : decode cX6_must 13 = .ok (.ifCond .ne 7, 3) := by decide +kernel
theorem dX6_must_16 : decode cX6_must 16 = .ok (.aload_n 0, 1) := by decide +kernel
theorem dX6_must_17 : decode cX6_must 17 = .ok (.invokevirtual 116, 3) := by decide +kernel
theorem dX6_must_20 : decode cX6_must 20 = .ok (.return_, 1) := by decide +kernel
theorem dX6_isLetter_0 : decode cX6_isLetter 0 = .ok (.aload_n 0, 1) := by decide +kernel
theorem dX6_isLetter_1 : decode cX6_isLetter 1 = .ok (.getfield 85, 3) := by decide +kernel
theorem dX6_isLetter_4 : decode cX6_isLetter 4 = .ok (.ifCond .ne 23, 3) := by decide +kernel
theorem dX6_isLetter_7 : decode cX6_isLetter 7 = .ok (.aload_n 0, 1) := by decide +kernel
theorem dX6_isLetter_8 : decode cX6_isLetter 8 = .ok (.getfield 109, 3) := by decide +kernel
theorem dX6_isLetter_11 : decode cX6_isLetter 11 = .ok (.iconst 2, 1) := by decide +kernel
theorem dX6_isLetter_12 : decode cX6_isLetter 12 = .ok (.if_icmp .ne 15, 3) := by decide +kernel
theorem dX6_isLetter_15 : decode cX6_isLetter 15 = .ok (.aload_n 0, 1) := by decide +kernel
theorem dX6_isLetter_16 : decode cX6_isLetter 16 = .ok (.getfield 98, 3) := by decide +kernel
theorem dX6_isLetter_19 : decode cX6_isLetter 19 = .ok (.iload_n 1, 1) := by decide +kernel
theorem dX6_isLetter_20 : decode cX6_isLetter 20 = .ok (.if_icmp .ne 7, 3) := by decide +kernel
theorem dX6_isLetter_23 : decode cX6_isLetter 23 = .ok (.iconst 1, 1) := by decide +kernel
theorem dX6_isLetter_24 : decode cX6_isLetter 24 = .ok (.goto 4, 3) := by decide +kernel
theorem dX6_isLetter_27 : decode cX6_isLetter 27 = .ok (.iconst 0, 1) := by decide +kernel
theorem dX6_isLetter_28 : decode cX6_isLetter 28 = .ok (.ireturn, 1) := by decide +kernel
theorem dX6_number_0 : decode cX6_number 0 = .ok (.aload_n 0, 1) := by decide +kernel
theorem dX6_number_1 : decode cX6_number 1 = .ok (.getfield 85, 3) := by decide +kernel
theorem dX6_number_4 : decode cX6_number 4 = .ok (.ifCond .ne 16, 3) := by decide +kernel
theorem dX6_number_7 : decode cX6_number 7 = .ok (.aload_n 0, 1) := by decide +kernel
theorem dX6_number_8 : decode cX6_number 8 = .ok (.getfield 109, 3) := by decide +kernel
theorem dX6_number_11 : decode cX6_number 11 = .ok (.iconst 3, 1) := by decide +kernel
theorem dX6_number_12 : decode cX6_number 12 = .ok (.if_icmp .eq 8, 3) := by decide +kernel
theorem dX6_number_15 : decode cX6_number 15 = .ok (.aload_n 0, 1) := by decide +kernel
theorem dX6_number_16 : decode cX6_number 16 = .ok (.iconst 1, 1) := by decide +kernel
theorem dX6_number_17 : decode cX6_number 17 = .ok (.invokevirtual 112, 3) := by decide +kernel
theorem dX6_number_20 : decode cX6_number 20 = .ok (.aload_n 0, 1) := by decide +kernel
theorem dX6_number_21 : decode cX6_number 21 = .ok (.getfield 85, 3) := by decide +kernel
theorem dX6_number_24 : decode cX6_number 24 = .ok (.ifCond .ne 23, 3) := by decide +kernel
theorem dX6_number_27 : decode cX6_number 27 = .ok (.aload_n 0, 1) := by decide +kernel
theorem dX6_number_28 : decode cX6_number 28 = .ok (.getfield 98, 3) := by decide +kernel
theorem dX6_number_31 : decode cX6_number 31 = .ok (.i2l, 1) := by decide +kernel
theorem dX6_number_32 : decode cX6_number 32 = .ok (.iload_n 1, 1) := by decide +kernel
theorem dX6_number_33 : decode cX6_number 33 = .ok (.i2l, 1) := by decide +kernel
theorem dX6_number_34 : decode cX6_number 34 = .ok (.iload_n 2, 1) := by decide +kernel
theorem dX6_number_35 : decode cX6_number 35 = .ok (.i2l, 1) := by decide +kernel
theorem dX6_number_36 : decode cX6_number 36 = .ok (.invokestatic 64, 3) := by decide +kernel
theorem dX6_number_39 : decode cX6_number 39 = .ok (.ifCond .ne 8, 3) := by decide +kernel
theorem dX6_number_42 : decode cX6_number 42 = .ok (.aload_n 0, 1) := by decide +kernel
theorem dX6_number_43 : decode cX6_number 43 = .ok (.iconst 2, 1) := by decide +kernel
theorem dX6_number_44 : decode cX6_number 44 = .ok (.invokevirtual 112, 3) := by decide +kernel
theorem dX6_number_47 : decode cX6_number 47 = .ok (.aload_n 0, 1) := by decide +kernel
theorem dX6_number_48 : decode cX6_number 48 = .ok (.getfield 85, 3) := by decide +kernel
theorem dX6_number_51 : decode cX6_number 51 = .ok (.ifCond .ne 10, 3) := by decide +kernel
theorem dX6_number_54 : decode cX6_number 54 = .ok (.aload_n 0, 1) := by decide +kernel
theorem dX6_number_55 : decode cX6_number 55 = .ok (.getfield 98, 3) := by decide +kernel
theorem dX6_number_58 : decode cX6_number 58 = .ok (.goto 4, 3) := by decide +kernel
theorem dX6_number_61 : decode cX6_number 61 = .ok (.iload_n 1, 1) := by decide +kernel
theorem dX6_number_62 : decode cX6_number 62 = .ok (.istore_n 3, 1) := by decide +kernel
theorem dX6_number_63 : decode cX6_number 63 = .ok (.aload_n 0, 1) := by decide +kernel
theorem dX6_number_64 : decode cX6_number 64 = .ok (.iconst 1, 1) := by decide +kernel
theorem dX6_number_65 : decode cX6_number 65 = .ok (.invokevirtual 119, 3) := by decide +kernel
theorem dX6_number_68 : decode cX6_number 68 = .ok (.iload_n 3, 1) := by decide +kernel
theorem dX6_number_69 : decode cX6_number 69 = .ok (.ireturn, 1) := by decide +kernel
theorem dX6_mustSign_0 : decode cX6_mustSign 0 = .ok (.aload_n 0, 1) := by decide +kernel
theorem dX6_mustSign_1 : decode cX6_mustSign 1 = .ok (.aload_n 0, 1) := by decide +kernel
theorem dX6_mustSign_2 : decode cX6_mustSign 2 = .ok (.getfield 109, 3) := by decide +kernel
theorem dX6_mustSign_5 : decode cX6_mustSign 5 = .ok (.iconst 4, 1) := by decide +kernel
theorem dX6_mustSign_6 : decode cX6_mustSign 6 = .ok (.if_icmp .ne 15, 3) := by decide +kernel
theorem dX6_mustSign_9 : decode cX6_mustSign 9 = .ok (.aload_n 0, 1) := by decide +kernel
theorem dX6_mustSign_10 : decode cX6_mustSign 10 = .ok (.getfield 98, 3) := by decide +kernel
theorem dX6_mustSign_13 : decode cX6_mustSign 13 = .ok (.iload_n 1, 1) := by decide +kernel
theorem dX6_mustSign_14 : decode cX6_mustSign 14 = .ok (.if_icmp .ne 7, 3) := by decide +kernel
theorem dX6_mustSign_17 : decode cX6_mustSign 17 = .ok (.iconst 1, 1) := by decide +kernel
theorem dX6_mustSign_18 : decode cX6_mustSign 18 = .ok (.goto 4, 3) := by decide +kernel
theorem dX6_mustSign_21 : decode cX6_mustSign 21 = .ok (.iconst 0, 1) := by decide +kernel
theorem dX6_mustSign_22 : decode cX6_mustSign 22 = .ok (.invokevirtual 119, 3) := by decide +kernel
theorem dX6_mustSign_25 : decode cX6_mustSign 25 = .ok (.return_, 1) := by decide +kernel
theorem dX6_begin_0 : decode cX6_begin 0 = .ok (.aload_n 0, 1) := by decide +kernel
theorem dX6_begin_1 : decode cX6_begin 1 = .ok (.iconst 0, 1) := by decide +kernel
theorem dX6_begin_2 : decode cX6_begin 2 = .ok (.putfield 94, 3) := by decide +kernel
theorem dX6_begin_5 : decode cX6_begin 5 = .ok (.aload_n 0, 1) := by decide +kernel
theorem dX6_begin_6 : decode cX6_begin 6 = .ok (.iconst 0, 1) := by decide +kernel
theorem dX6_begin_7 : decode cX6_begin 7 = .ok (.putfield 85, 3) := by decide +kernel
theorem dX6_begin_10 : decode cX6_begin 10 = .ok (.aload_n 0, 1) := by decide +kernel
theorem dX6_begin_11 : decode cX6_begin 11 = .ok (.invokevirtual 116, 3) := by decide +kernel
theorem dX6_begin_14 : decode cX6_begin 14 = .ok (.return_, 1) := by decide +kernel
theorem dX6_failed_0 : decode cX6_failed 0 = .ok (.aload_n 0, 1) := by decide +kernel
theorem dX6_failed_1 : decode cX6_failed 1 = .ok (.getfield 85, 3) := by decide +kernel
theorem dX6_failed_4 : decode cX6_failed 4 = .ok (.ifCond .ne 16, 3) := by decide +kernel
theorem dX6_failed_7 : decode cX6_failed 7 = .ok (.aload_n 0, 1) := by decide +kernel
theorem dX6_failed_8 : decode cX6_failed 8 = .ok (.getfield 109, 3) := by decide +kernel
theorem dX6_failed_11 : decode cX6_failed 11 = .ok (.iconst 1, 1) := by decide +kernel
theorem dX6_failed_12 : decode cX6_failed 12 = .ok (.if_icmp .eq 8, 3) := by decide +kernel
theorem dX6_failed_15 : decode cX6_failed 15 = .ok (.aload_n 0, 1) := by decide +kernel
theorem dX6_failed_16 : decode cX6_failed 16 = .ok (.iconst 1, 1) := by decide +kernel
theorem dX6_failed_17 : decode cX6_failed 17 = .ok (.invokevirtual 112, 3) := by decide +kernel
theorem dX6_failed_20 : decode cX6_failed 20 = .ok (.aload_n 0, 1) := by decide +kernel
theorem dX6_failed_21 : decode cX6_failed 21 = .ok (.iconst 0, 1) := by decide +kernel
theorem dX6_failed_22 : decode cX6_failed 22 = .ok (.putfield 81, 3) := by decide +kernel
theorem dX6_failed_25 : decode cX6_failed 25 = .ok (.aload_n 0, 1) := by decide +kernel
theorem dX6_failed_26 : decode cX6_failed 26 = .ok (.aload_n 0, 1) := by decide +kernel
theorem dX6_failed_27 : decode cX6_failed 27 = .ok (.getfield 85, 3) := by decide +kernel
theorem dX6_failed_30 : decode cX6_failed 30 = .ok (.ifCond .le 10, 3) := by decide +kernel
theorem dX6_failed_33 : decode cX6_failed 33 = .ok (.aload_n 0, 1) := by decide +kernel
theorem dX6_failed_34 : decode cX6_failed 34 = .ok (.getfield 85, 3) := by decide +kernel
theorem dX6_failed_37 : decode cX6_failed 37 = .ok (.goto 7, 3) := by decide +kernel
theorem dX6_failed_40 : decode cX6_failed 40 = .ok (.aload_n 0, 1) := by decide +kernel
theorem dX6_failed_41 : decode cX6_failed 41 = .ok (.getfield 123, 3) := by decide +kernel
theorem dX6_failed_44 : decode cX6_failed 44 = .ok (.putfield 123, 3) := by decide +kernel
theorem dX6_failed_47 : decode cX6_failed 47 = .ok (.aload_n 0, 1) := by decide +kernel
theorem dX6_failed_48 : decode cX6_failed 48 = .ok (.getfield 85, 3) := by decide +kernel
theorem dX6_failed_51 : decode cX6_failed 51 = .ok (.ifCond .le 7, 3) := by decide +kernel
theorem dX6_failed_54 : decode cX6_failed 54 = .ok (.iconst 1, 1) := by decide +kernel
theorem dX6_failed_55 : decode cX6_failed 55 = .ok (.goto 4, 3) := by decide +kernel
theorem dX6_failed_58 : decode cX6_failed 58 = .ok (.iconst 0, 1) := by decide +kernel
theorem dX6_failed_59 : decode cX6_failed 59 = .ok (.ireturn, 1) := by decide +kernel
theorem dX6_fault_0 : decode cX6_fault 0 = .ok (.aload_n 0, 1) := by decide +kernel
theorem dX6_fault_1 : decode cX6_fault 1 = .ok (.iconst 0, 1) := by decide +kernel
theorem dX6_fault_2 : decode cX6_fault 2 = .ok (.putfield 54, 3) := by decide +kernel
theorem dX6_fault_5 : decode cX6_fault 5 = .ok (.aload_n 0, 1) := by decide +kernel
theorem dX6_fault_6 : decode cX6_fault 6 = .ok (.getfield 123, 3) := by decide +kernel
theorem dX6_fault_9 : decode cX6_fault 9 = .ok (.ireturn, 1) := by decide +kernel
theorem dX6_kindBy_0 : decode cX6_kindBy 0 = .ok (.iload_n 0, 1) := by decide +kernel
theorem dX6_kindBy_1 : decode cX6_kindBy 1 = .ok (.bipush 97, 2) := by decide +kernel
theorem dX6_kindBy_3 : decode cX6_kindBy 3 = .ok (.if_icmp .ne 7, 3) := by decide +kernel
theorem dX6_kindBy_6 : decode cX6_kindBy 6 = .ok (.iconst 1, 1) := by decide +kernel
theorem dX6_kindBy_7 : decode cX6_kindBy 7 = .ok (.goto 45, 3) := by decide +kernel
theorem dX6_kindBy_10 : decode cX6_kindBy 10 = .ok (.iload_n 0, 1) := by decide +kernel
theorem dX6_kindBy_11 : decode cX6_kindBy 11 = .ok (.bipush 119, 2) := by decide +kernel
theorem dX6_kindBy_13 : decode cX6_kindBy 13 = .ok (.if_icmp .ne 7, 3) := by decide +kernel
theorem dX6_kindBy_16 : decode cX6_kindBy 16 = .ok (.iconst 2, 1) := by decide +kernel
theorem dX6_kindBy_17 : decode cX6_kindBy 17 = .ok (.goto 35, 3) := by decide +kernel
theorem dX6_kindBy_20 : decode cX6_kindBy 20 = .ok (.iload_n 0, 1) := by decide +kernel
theorem dX6_kindBy_21 : decode cX6_kindBy 21 = .ok (.bipush 116, 2) := by decide +kernel
theorem dX6_kindBy_23 : decode cX6_kindBy 23 = .ok (.if_icmp .ne 7, 3) := by decide +kernel
theorem dX6_kindBy_26 : decode cX6_kindBy 26 = .ok (.iconst 3, 1) := by decide +kernel
theorem dX6_kindBy_27 : decode cX6_kindBy 27 = .ok (.goto 25, 3) := by decide +kernel
theorem dX6_kindBy_30 : decode cX6_kindBy 30 = .ok (.iload_n 0, 1) := by decide +kernel
theorem dX6_kindBy_31 : decode cX6_kindBy 31 = .ok (.bipush 107, 2) := by decide +kernel
theorem dX6_kindBy_33 : decode cX6_kindBy 33 = .ok (.if_icmp .ne 7, 3) := by decide +kernel
theorem dX6_kindBy_36 : decode cX6_kindBy 36 = .ok (.iconst 4, 1) := by decide +kernel
theorem dX6_kindBy_37 : decode cX6_kindBy 37 = .ok (.goto 15, 3) := by decide +kernel
theorem dX6_kindBy_40 : decode cX6_kindBy 40 = .ok (.iload_n 0, 1) := by decide +kernel
theorem dX6_kindBy_41 : decode cX6_kindBy 41 = .ok (.bipush 98, 2) := by decide +kernel
theorem dX6_kindBy_43 : decode cX6_kindBy 43 = .ok (.if_icmp .ne 7, 3) := by decide +kernel
theorem dX6_kindBy_46 : decode cX6_kindBy 46 = .ok (.iconst 5, 1) := by decide +kernel
theorem dX6_kindBy_47 : decode cX6_kindBy 47 = .ok (.goto 5, 3) := by decide +kernel
theorem dX6_kindBy_50 : decode cX6_kindBy 50 = .ok (.ldc 97, 2) := by decide +kernel
theorem dX6_kindBy_52 : decode cX6_kindBy 52 = .ok (.ireturn, 1) := by decide +kernel
theorem dX6_readRoad_0 : decode cX6_readRoad 0 = .ok (.aload_n 0, 1) := by decide +kernel
theorem dX6_readRoad_1 : decode cX6_readRoad 1 = .ok (.getfield 22, 3) := by decide +kernel
theorem dX6_readRoad_4 : decode cX6_readRoad 4 = .ok (.iconst 4, 1) := by decide +kernel
theorem dX6_readRoad_5 : decode cX6_readRoad 5 = .ok (.iaload, 1) := by decide +kernel
theorem dX6_readRoad_6 : decode cX6_readRoad 6 = .ok (.bipush 10, 2) := by decide +kernel
theorem dX6_readRoad_8 : decode cX6_readRoad 8 = .ok (.if_icmp .ne 8, 3) := by decide +kernel
theorem dX6_readRoad_11 : decode cX6_readRoad 11 = .ok (.aload_n 0, 1) := by decide +kernel
theorem dX6_readRoad_12 : decode cX6_readRoad 12 = .ok (.iconst 3, 1) := by decide +kernel
theorem dX6_readRoad_13 : decode cX6_readRoad 13 = .ok (.invokevirtual 112, 3) := by decide +kernel
theorem dX6_readRoad_16 : decode cX6_readRoad 16 = .ok (.aload_n 0, 1) := by decide +kernel
theorem dX6_readRoad_17 : decode cX6_readRoad 17 = .ok (.iconst 1, 1) := by decide +kernel
theorem dX6_readRoad_18 : decode cX6_readRoad 18 = .ok (.invokevirtual 119, 3) := by decide +kernel
theorem dX6_readRoad_21 : decode cX6_readRoad 21 = .ok (.aload_n 0, 1) := by decide +kernel
theorem dX6_readRoad_22 : decode cX6_readRoad 22 = .ok (.iconst 0, 1) := by decide +kernel
theorem dX6_readRoad_23 : decode cX6_readRoad 23 = .ok (.aload_n 0, 1) := by decide +kernel
theorem dX6_readRoad_24 : decode cX6_readRoad 24 = .ok (.getfield 22, 3) := by decide +kernel
theorem dX6_readRoad_27 : decode cX6_readRoad 27 = .ok (.iconst 0, 1) := by decide +kernel
theorem dX6_readRoad_28 : decode cX6_readRoad 28 = .ok (.iaload, 1) := by decide +kernel
theorem dX6_readRoad_29 : decode cX6_readRoad 29 = .ok (.iconst 1, 1) := by decide +kernel
theorem dX6_readRoad_30 : decode cX6_readRoad 30 = .ok (.isub, 1) := by decide +kernel
theorem dX6_readRoad_31 : decode cX6_readRoad 31 = .ok (.invokevirtual 126, 3) := by decide +kernel
theorem dX6_readRoad_34 : decode cX6_readRoad 34 = .ok (.istore_n 1, 1) := by decide +kernel
theorem dX6_readRoad_35 : decode cX6_readRoad 35 = .ok (.aload_n 0, 1) := by decide +kernel
theorem dX6_readRoad_36 : decode cX6_readRoad 36 = .ok (.bipush 44, 2) := by decide +kernel
theorem dX6_readRoad_38 : decode cX6_readRoad 38 = .ok (.invokevirtual 130, 3) := by decide +kernel
theorem dX6_readRoad_41 : decode cX6_readRoad 41 = .ok (.aload_n 0, 1) := by decide +kernel
theorem dX6_readRoad_42 : decode cX6_readRoad 42 = .ok (.getfield 85, 3) := by decide +kernel
theorem dX6_readRoad_45 : decode cX6_readRoad 45 = .ok (.ifCond .ne 57, 3) := by decide +kernel
theorem dX6_readRoad_48 : decode cX6_readRoad 48 = .ok (.aload_n 0, 1) := by decide +kernel
theorem dX6_readRoad_49 : decode cX6_readRoad 49 = .ok (.getfield 109, 3) := by decide +kernel
theorem dX6_readRoad_52 : decode cX6_readRoad 52 = .ok (.iconst 3, 1) := by decide +kernel
theorem dX6_readRoad_53 : decode cX6_readRoad 53 = .ok (.if_icmp .ne 49, 3) := by decide +kernel
theorem dX6_readRoad_56 : decode cX6_readRoad 56 = .ok (.aload_n 0, 1) := by decide +kernel
theorem dX6_readRoad_57 : decode cX6_readRoad 57 = .ok (.getfield 98, 3) := by decide +kernel
theorem dX6_readRoad_60 : decode cX6_readRoad 60 = .ok (.iload_n 1, 1) := by decide +kernel
theorem dX6_readRoad_61 : decode cX6_readRoad 61 = .ok (.if_icmp .eq 36, 3) := by decide +kernel
theorem dX6_readRoad_64 : decode cX6_readRoad 64 = .ok (.aload_n 0, 1) := by decide +kernel
theorem dX6_readRoad_65 : decode cX6_readRoad 65 = .ok (.getfield 98, 3) := by decide +kernel
theorem dX6_readRoad_68 : decode cX6_readRoad 68 = .ok (.aload_n 0, 1) := by decide +kernel
theorem dX6_readRoad_69 : decode cX6_readRoad 69 = .ok (.getfield 22, 3) := by decide +kernel
theorem dX6_readRoad_72 : decode cX6_readRoad 72 = .ok (.iconst 0, 1) := by decide +kernel
theorem dX6_readRoad_73 : decode cX6_readRoad 73 = .ok (.iaload, 1) := by decide +kernel
theorem dX6_readRoad_74 : decode cX6_readRoad 74 = .ok (.if_icmp .ge 28, 3) := by decide +kernel
theorem dX6_readRoad_77 : decode cX6_readRoad 77 = .ok (.aload_n 0, 1) := by decide +kernel
theorem dX6_readRoad_78 : decode cX6_readRoad 78 = .ok (.getfield 22, 3) := by decide +kernel
theorem dX6_readRoad_81 : decode cX6_readRoad 81 = .ok (.bipush 10, 2) := by decide +kernel
theorem dX6_readRoad_83 : decode cX6_readRoad 83 = .ok (.iload_n 1, 1) := by decide +kernel
theorem dX6_readRoad_84 : decode cX6_readRoad 84 = .ok (.iadd, 1) := by decide +kernel
theorem dX6_readRoad_85 : decode cX6_readRoad 85 = .ok (.iaload, 1) := by decide +kernel
theorem dX6_readRoad_86 : decode cX6_readRoad 86 = .ok (.aload_n 0, 1) := by decide +kernel
theorem dX6_readRoad_87 : decode cX6_readRoad 87 = .ok (.getfield 98, 3) := by decide +kernel
theorem dX6_readRoad_90 : decode cX6_readRoad 90 = .ok (.ishr, 1) := by decide +kernel
theorem dX6_readRoad_91 : decode cX6_readRoad 91 = .ok (.iconst 1, 1) := by decide +kernel
theorem dX6_readRoad_92 : decode cX6_readRoad 92 = .ok (.iand, 1) := by decide +kernel
theorem dX6_readRoad_93 : decode cX6_readRoad 93 = .ok (.iconst 1, 1) := by decide +kernel
theorem dX6_readRoad_94 : decode cX6_readRoad 94 = .ok (.if_icmp .ne 8, 3) := by decide +kernel
theorem dX6_readRoad_97 : decode cX6_readRoad 97 = .ok (.aload_n 0, 1) := by decide +kernel
theorem dX6_readRoad_98 : decode cX6_readRoad 98 = .ok (.iconst 2, 1) := by decide +kernel
theorem dX6_readRoad_99 : decode cX6_readRoad 99 = .ok (.invokevirtual 112, 3) := by decide +kernel
theorem dX6_readRoad_102 : decode cX6_readRoad 102 = .ok (.aload_n 0, 1) := by decide +kernel
theorem dX6_readRoad_103 : decode cX6_readRoad 103 = .ok (.iconst 0, 1) := by decide +kernel
theorem dX6_readRoad_104 : decode cX6_readRoad 104 = .ok (.aload_n 0, 1) := by decide +kernel
theorem dX6_readRoad_105 : decode cX6_readRoad 105 = .ok (.getfield 22, 3) := by decide +kernel
theorem dX6_readRoad_108 : decode cX6_readRoad 108 = .ok (.iconst 0, 1) := by decide +kernel
theorem dX6_readRoad_109 : decode cX6_readRoad 109 = .ok (.iaload, 1) := by decide +kernel
theorem dX6_readRoad_110 : decode cX6_readRoad 110 = .ok (.iconst 1, 1) := by decide +kernel
theorem dX6_readRoad_111 : decode cX6_readRoad 111 = .ok (.isub, 1) := by decide +kernel
theorem dX6_readRoad_112 : decode cX6_readRoad 112 = .ok (.invokevirtual 126, 3) := by decide +kernel
theorem dX6_readRoad_115 : decode cX6_readRoad 115 = .ok (.istore_n 2, 1) := by decide +kernel
theorem dX6_readRoad_116 : decode cX6_readRoad 116 = .ok (.aload_n 0, 1) := by decide +kernel
theorem dX6_readRoad_117 : decode cX6_readRoad 117 = .ok (.bipush 59, 2) := by decide +kernel
theorem dX6_readRoad_119 : decode cX6_readRoad 119 = .ok (.invokevirtual 130, 3) := by decide +kernel
theorem dX6_readRoad_122 : decode cX6_readRoad 122 = .ok (.aload_n 0, 1) := by decide +kernel
theorem dX6_readRoad_123 : decode cX6_readRoad 123 = .ok (.getfield 85, 3) := by decide +kernel
theorem dX6_readRoad_126 : decode cX6_readRoad 126 = .ok (.ifCond .ne 43, 3) := by decide +kernel
theorem dX6_readRoad_129 : decode cX6_readRoad 129 = .ok (.aload_n 0, 1) := by decide +kernel
theorem dX6_readRoad_130 : decode cX6_readRoad 130 = .ok (.getfield 22, 3) := by decide +kernel
theorem dX6_readRoad_133 : decode cX6_readRoad 133 = .ok (.bipush 10, 2) := by decide +kernel
theorem dX6_readRoad_135 : decode cX6_readRoad 135 = .ok (.iload_n 1, 1) := by decide +kernel
theorem dX6_readRoad_136 : decode cX6_readRoad 136 = .ok (.iadd, 1) := by decide +kernel
theorem dX6_readRoad_137 : decode cX6_readRoad 137 = .ok (.dup2, 1) := by decide +kernel
theorem dX6_readRoad_138 : decode cX6_readRoad 138 = .ok (.iaload, 1) := by decide +kernel
theorem dX6_readRoad_139 : decode cX6_readRoad 139 = .ok (.iconst 1, 1) := by decide +kernel
theorem dX6_readRoad_140 : decode cX6_readRoad 140 = .ok (.iload_n 2, 1) := by decide +kernel
theorem dX6_readRoad_141 : decode cX6_readRoad 141 = .ok (.ishl, 1) := by decide +kernel
theorem dX6_readRoad_142 : decode cX6_readRoad 142 = .ok (.ior, 1) := by decide +kernel
theorem dX6_readRoad_143 : decode cX6_readRoad 143 = .ok (.iastore, 1) := by decide +kernel
theorem dX6_readRoad_144 : decode cX6_readRoad 144 = .ok (.aload_n 0, 1) := by decide +kernel
theorem dX6_readRoad_145 : decode cX6_readRoad 145 = .ok (.getfield 22, 3) := by decide +kernel
theorem dX6_readRoad_148 : decode cX6_readRoad 148 = .ok (.bipush 10, 2) := by decide +kernel
theorem dX6_readRoad_150 : decode cX6_readRoad 150 = .ok (.iload_n 2, 1) := by decide +kernel
theorem dX6_readRoad_151 : decode cX6_readRoad 151 = .ok (.iadd, 1) := by decide +kernel
theorem dX6_readRoad_152 : decode cX6_readRoad 152 = .ok (.dup2, 1) := by decide +kernel
theorem dX6_readRoad_153 : decode cX6_readRoad 153 = .ok (.iaload, 1) := by decide +kernel
theorem dX6_readRoad_154 : decode cX6_readRoad 154 = .ok (.iconst 1, 1) := by decide +kernel
theorem dX6_readRoad_155 : decode cX6_readRoad 155 = .ok (.iload_n 1, 1) := by decide +kernel
theorem dX6_readRoad_156 : decode cX6_readRoad 156 = .ok (.ishl, 1) := by decide +kernel
theorem dX6_readRoad_157 : decode cX6_readRoad 157 = .ok (.ior, 1) := by decide +kernel
theorem dX6_readRoad_158 : decode cX6_readRoad 158 = .ok (.iastore, 1) := by decide +kernel
theorem dX6_readRoad_159 : decode cX6_readRoad 159 = .ok (.aload_n 0, 1) := by decide +kernel
theorem dX6_readRoad_160 : decode cX6_readRoad 160 = .ok (.getfield 22, 3) := by decide +kernel
theorem dX6_readRoad_163 : decode cX6_readRoad 163 = .ok (.iconst 4, 1) := by decide +kernel
theorem dX6_readRoad_164 : decode cX6_readRoad 164 = .ok (.dup2, 1) := by decide +kernel
theorem dX6_readRoad_165 : decode cX6_readRoad 165 = .ok (.iaload, 1) := by decide +kernel
theorem dX6_readRoad_166 : decode cX6_readRoad 166 = .ok (.iconst 1, 1) := by decide +kernel
theorem dX6_readRoad_167 : decode cX6_readRoad 167 = .ok (.iadd, 1) := by decide +kernel
theorem dX6_readRoad_168 : decode cX6_readRoad 168 = .ok (.iastore, 1) := by decide +kernel
theorem dX6_readRoad_169 : decode cX6_readRoad 169 = .ok (.return_, 1) := by decide +kernel
theorem dX6_readWisher_0 : decode cX6_readWisher 0 = .ok (.aload_n 0, 1) := by decide +kernel
theorem dX6_readWisher_1 : decode cX6_readWisher 1 = .ok (.getfield 98, 3) := by decide +kernel
theorem dX6_readWisher_4 : decode cX6_readWisher 4 = .ok (.invokestatic 133, 3) := by decide +kernel
theorem dX6_readWisher_7 : decode cX6_readWisher 7 = .ok (.istore_n 1, 1) := by decide +kernel
theorem dX6_readWisher_8 : decode cX6_readWisher 8 = .ok (.aload_n 0, 1) := by decide +kernel
theorem dX6_readWisher_9 : decode cX6_readWisher 9 = .ok (.getfield 22, 3) := by decide +kernel
theorem dX6_readWisher_12 : decode cX6_readWisher 12 = .ok (.iconst 5, 1) := by decide +kernel
theorem dX6_readWisher_13 : decode cX6_readWisher 13 = .ok (.iaload, 1) := by decide +kernel
theorem dX6_readWisher_14 : decode cX6_readWisher 14 = .ok (.bipush 6, 2) := by decide +kernel
theorem dX6_readWisher_16 : decode cX6_readWisher 16 = .ok (.if_icmp .ne 8, 3) := by decide +kernel
theorem dX6_readWisher_19 : decode cX6_readWisher 19 = .ok (.aload_n 0, 1) := by decide +kernel
theorem dX6_readWisher_20 : decode cX6_readWisher 20 = .ok (.iconst 3, 1) := by decide +kernel
theorem dX6_readWisher_21 : decode cX6_readWisher 21 = .ok (.invokevirtual 112, 3) := by decide +kernel
theorem dX6_readWisher_24 : decode cX6_readWisher 24 = .ok (.aload_n 0, 1) := by decide +kernel
theorem dX6_readWisher_25 : decode cX6_readWisher 25 = .ok (.iconst 1, 1) := by decide +kernel
theorem dX6_readWisher_26 : decode cX6_readWisher 26 = .ok (.invokevirtual 119, 3) := by decide +kernel
theorem dX6_readWisher_29 : decode cX6_readWisher 29 = .ok (.aload_n 0, 1) := by decide +kernel
theorem dX6_readWisher_30 : decode cX6_readWisher 30 = .ok (.iconst 0, 1) := by decide +kernel
theorem dX6_readWisher_31 : decode cX6_readWisher 31 = .ok (.aload_n 0, 1) := by decide +kernel
theorem dX6_readWisher_32 : decode cX6_readWisher 32 = .ok (.getfield 22, 3) := by decide +kernel
theorem dX6_readWisher_35 : decode cX6_readWisher 35 = .ok (.iconst 0, 1) := by decide +kernel
theorem dX6_readWisher_36 : decode cX6_readWisher 36 = .ok (.iaload, 1) := by decide +kernel
theorem dX6_readWisher_37 : decode cX6_readWisher 37 = .ok (.iconst 1, 1) := by decide +kernel
theorem dX6_readWisher_38 : decode cX6_readWisher 38 = .ok (.isub, 1) := by decide +kernel
theorem dX6_readWisher_39 : decode cX6_readWisher 39 = .ok (.invokevirtual 126, 3) := by decide +kernel
theorem dX6_readWisher_42 : decode cX6_readWisher 42 = .ok (.istore_n 2, 1) := by decide +kernel
theorem dX6_readWisher_43 : decode cX6_readWisher 43 = .ok (.aload_n 0, 1) := by decide +kernel
theorem dX6_readWisher_44 : decode cX6_readWisher 44 = .ok (.bipush 44, 2) := by decide +kernel
theorem dX6_readWisher_46 : decode cX6_readWisher 46 = .ok (.invokevirtual 130, 3) := by decide +kernel
theorem dX6_readWisher_49 : decode cX6_readWisher 49 = .ok (.aload_n 0, 1) := by decide +kernel
theorem dX6_readWisher_50 : decode cX6_readWisher 50 = .ok (.iconst 0, 1) := by decide +kernel
theorem dX6_readWisher_51 : decode cX6_readWisher 51 = .ok (.aload_n 0, 1) := by decide +kernel
theorem dX6_readWisher_52 : decode cX6_readWisher 52 = .ok (.getfield 22, 3) := by decide +kernel
theorem dX6_readWisher_55 : decode cX6_readWisher 55 = .ok (.iconst 0, 1) := by decide +kernel
theorem dX6_readWisher_56 : decode cX6_readWisher 56 = .ok (.iaload, 1) := by decide +kernel
theorem dX6_readWisher_57 : decode cX6_readWisher 57 = .ok (.iconst 1, 1) := by decide +kernel
theorem dX6_readWisher_58 : decode cX6_readWisher 58 = .ok (.isub, 1) := by decide +kernel
theorem dX6_readWisher_59 : decode cX6_readWisher 59 = .ok (.invokevirtual 126, 3) := by decide +kernel
theorem dX6_readWisher_62 : decode cX6_readWisher 62 = .ok (.istore_n 3, 1) := by decide +kernel
theorem dX6_readWisher_63 : decode cX6_readWisher 63 = .ok (.aload_n 0, 1) := by decide +kernel
theorem dX6_readWisher_64 : decode cX6_readWisher 64 = .ok (.bipush 44, 2) := by decide +kernel
theorem dX6_readWisher_66 : decode cX6_readWisher 66 = .ok (.invokevirtual 130, 3) := by decide +kernel
theorem dX6_readWisher_69 : decode cX6_readWisher 69 = .ok (.aload_n 0, 1) := by decide +kernel
theorem dX6_readWisher_70 : decode cX6_readWisher 70 = .ok (.iconst 0, 1) := by decide +kernel
theorem dX6_readWisher_71 : decode cX6_readWisher 71 = .ok (.bipush 40, 2) := by decide +kernel
theorem dX6_readWisher_73 : decode cX6_readWisher 73 = .ok (.invokevirtual 126, 3) := by decide +kernel
theorem dX6_readWisher_76 : decode cX6_readWisher 76 = .ok (.istore 4, 2) := by decide +kernel
theorem dX6_readWisher_78 : decode cX6_readWisher 78 = .ok (.aload_n 0, 1) := by decide +kernel
theorem dX6_readWisher_79 : decode cX6_readWisher 79 = .ok (.bipush 44, 2) := by decide +kernel
theorem dX6_readWisher_81 : decode cX6_readWisher 81 = .ok (.invokevirtual 130, 3) := by decide +kernel
theorem dX6_readWisher_84 : decode cX6_readWisher 84 = .ok (.aload_n 0, 1) := by decide +kernel
theorem dX6_readWisher_85 : decode cX6_readWisher 85 = .ok (.iconst 0, 1) := by decide +kernel
theorem dX6_readWisher_86 : decode cX6_readWisher 86 = .ok (.iconst 5, 1) := by decide +kernel
theorem dX6_readWisher_87 : decode cX6_readWisher 87 = .ok (.invokevirtual 126, 3) := by decide +kernel
theorem dX6_readWisher_90 : decode cX6_readWisher 90 = .ok (.istore 5, 2) := by decide +kernel
theorem dX6_readWisher_92 : decode cX6_readWisher 92 = .ok (.aload_n 0, 1) := by decide +kernel
theorem dX6_readWisher_93 : decode cX6_readWisher 93 = .ok (.bipush 44, 2) := by decide +kernel
theorem dX6_readWisher_95 : decode cX6_readWisher 95 = .ok (.invokevirtual 130, 3) := by decide +kernel
theorem dX6_readWisher_98 : decode cX6_readWisher 98 = .ok (.aload_n 0, 1) := by decide +kernel
theorem dX6_readWisher_99 : decode cX6_readWisher 99 = .ok (.iconst 1, 1) := by decide +kernel
theorem dX6_readWisher_100 : decode cX6_readWisher 100 = .ok (.bipush 6, 2) := by decide +kernel
theorem dX6_readWisher_102 : decode cX6_readWisher 102 = .ok (.invokevirtual 126, 3) := by decide +kernel
theorem dX6_readWisher_105 : decode cX6_readWisher 105 = .ok (.istore 6, 2) := by decide +kernel
theorem dX6_readWisher_107 : decode cX6_readWisher 107 = .ok (.aload_n 0, 1) := by decide +kernel
theorem dX6_readWisher_108 : decode cX6_readWisher 108 = .ok (.bipush 59, 2) := by decide +kernel
theorem dX6_readWisher_110 : decode cX6_readWisher 110 = .ok (.invokevirtual 130, 3) := by decide +kernel
theorem dX6_readWisher_113 : decode cX6_readWisher 113 = .ok (.aload_n 0, 1) := by decide +kernel
theorem dX6_readWisher_114 : decode cX6_readWisher 114 = .ok (.getfield 85, 3) := by decide +kernel
theorem dX6_readWisher_117 : decode cX6_readWisher 117 = .ok (.ifCond .ne 88, 3) := by decide +kernel
theorem dX6_readWisher_120 : decode cX6_readWisher 120 = .ok (.bipush 16, 2) := by decide +kernel
theorem dX6_readWisher_122 : decode cX6_readWisher 122 = .ok (.bipush 8, 2) := by decide +kernel
theorem dX6_readWisher_124 : decode cX6_readWisher 124 = .ok (.aload_n 0, 1) := by decide +kernel
theorem dX6_readWisher_125 : decode cX6_readWisher 125 = .ok (.getfield 22, 3) := by decide +kernel
theorem dX6_readWisher_128 : decode cX6_readWisher 128 = .ok (.iconst 5, 1) := by decide +kernel
theorem dX6_readWisher_129 : decode cX6_readWisher 129 = .ok (.iaload, 1) := by decide +kernel
theorem dX6_readWisher_130 : decode cX6_readWisher 130 = .ok (.imul, 1) := by decide +kernel
theorem dX6_readWisher_131 : decode cX6_readWisher 131 = .ok (.iadd, 1) := by decide +kernel
theorem dX6_readWisher_132 : decode cX6_readWisher 132 = .ok (.istore 7, 2) := by decide +kernel
theorem dX6_readWisher_134 : decode cX6_readWisher 134 = .ok (.aload_n 0, 1) := by decide +kernel
theorem dX6_readWisher_135 : decode cX6_readWisher 135 = .ok (.getfield 22, 3) := by decide +kernel
theorem dX6_readWisher_138 : decode cX6_readWisher 138 = .ok (.iload 7, 2) := by decide +kernel
theorem dX6_readWisher_140 : decode cX6_readWisher 140 = .ok (.iload_n 1, 1) := by decide +kernel
theorem dX6_readWisher_141 : decode cX6_readWisher 141 = .ok (.iastore, 1) := by decide +kernel
theorem dX6_readWisher_142 : decode cX6_readWisher 142 = .ok (.aload_n 0, 1) := by decide +kernel
theorem dX6_readWisher_143 : decode cX6_readWisher 143 = .ok (.getfield 22, 3) := by decide +kernel
theorem dX6_readWisher_146 : decode cX6_readWisher 146 = .ok (.iload 7, 2) := by decide +kernel
theorem dX6_readWisher_148 : decode cX6_readWisher 148 = .ok (.iconst 1, 1) := by decide +kernel
theorem dX6_readWisher_149 : decode cX6_readWisher 149 = .ok (.iadd, 1) := by decide +kernel
theorem dX6_readWisher_150 : decode cX6_readWisher 150 = .ok (.iload_n 2, 1) := by decide +kernel
theorem dX6_readWisher_151 : decode cX6_readWisher 151 = .ok (.iastore, 1) := by decide +kernel
theorem dX6_readWisher_152 : decode cX6_readWisher 152 = .ok (.aload_n 0, 1) := by decide +kernel
theorem dX6_readWisher_153 : decode cX6_readWisher 153 = .ok (.getfield 22, 3) := by decide +kernel
theorem dX6_readWisher_156 : decode cX6_readWisher 156 = .ok (.iload 7, 2) := by decide +kernel
theorem dX6_readWisher_158 : decode cX6_readWisher 158 = .ok (.iconst 2, 1) := by decide +kernel
theorem dX6_readWisher_159 : decode cX6_readWisher 159 = .ok (.iadd, 1) := by decide +kernel
theorem dX6_readWisher_160 : decode cX6_readWisher 160 = .ok (.iload_n 3, 1) := by decide +kernel
theorem dX6_readWisher_161 : decode cX6_readWisher 161 = .ok (.iastore, 1) := by decide +kernel
theorem dX6_readWisher_162 : decode cX6_readWisher 162 = .ok (.aload_n 0, 1) := by decide +kernel
theorem dX6_readWisher_163 : decode cX6_readWisher 163 = .ok (.getfield 22, 3) := by decide +kernel
theorem dX6_readWisher_166 : decode cX6_readWisher 166 = .ok (.iload 7, 2) := by decide +kernel
theorem dX6_readWisher_168 : decode cX6_readWisher 168 = .ok (.iconst 3, 1) := by decide +kernel
theorem dX6_readWisher_169 : decode cX6_readWisher 169 = .ok (.iadd, 1) := by decide +kernel
theorem dX6_readWisher_170 : decode cX6_readWisher 170 = .ok (.iload 4, 2) := by decide +kernel
theorem dX6_readWisher_172 : decode cX6_readWisher 172 = .ok (.iastore, 1) := by decide +kernel
theorem dX6_readWisher_173 : decode cX6_readWisher 173 = .ok (.aload_n 0, 1) := by decide +kernel
theorem dX6_readWisher_174 : decode cX6_readWisher 174 = .ok (.getfield 22, 3) := by decide +kernel
theorem dX6_readWisher_177 : decode cX6_readWisher 177 = .ok (.iload 7, 2) := by decide +kernel
theorem dX6_readWisher_179 : decode cX6_readWisher 179 = .ok (.iconst 4, 1) := by decide +kernel
theorem dX6_readWisher_180 : decode cX6_readWisher 180 = .ok (.iadd, 1) := by decide +kernel
theorem dX6_readWisher_181 : decode cX6_readWisher 181 = .ok (.iload 5, 2) := by decide +kernel
theorem dX6_readWisher_183 : decode cX6_readWisher 183 = .ok (.iastore, 1) := by decide +kernel
theorem dX6_readWisher_184 : decode cX6_readWisher 184 = .ok (.aload_n 0, 1) := by decide +kernel
theorem dX6_readWisher_185 : decode cX6_readWisher 185 = .ok (.getfield 22, 3) := by decide +kernel
theorem dX6_readWisher_188 : decode cX6_readWisher 188 = .ok (.iload 7, 2) := by decide +kernel
theorem dX6_readWisher_190 : decode cX6_readWisher 190 = .ok (.iconst 5, 1) := by decide +kernel
theorem dX6_readWisher_191 : decode cX6_readWisher 191 = .ok (.iadd, 1) := by decide +kernel
theorem dX6_readWisher_192 : decode cX6_readWisher 192 = .ok (.iload 6, 2) := by decide +kernel
theorem dX6_readWisher_194 : decode cX6_readWisher 194 = .ok (.iastore, 1) := by decide +kernel
theorem dX6_readWisher_195 : decode cX6_readWisher 195 = .ok (.aload_n 0, 1) := by decide +kernel
theorem dX6_readWisher_196 : decode cX6_readWisher 196 = .ok (.getfield 22, 3) := by decide +kernel
theorem dX6_readWisher_199 : decode cX6_readWisher 199 = .ok (.iconst 5, 1) := by decide +kernel
theorem dX6_readWisher_200 : decode cX6_readWisher 200 = .ok (.dup2, 1) := by decide +kernel
theorem dX6_readWisher_201 : decode cX6_readWisher 201 = .ok (.iaload, 1) := by decide +kernel
theorem dX6_readWisher_202 : decode cX6_readWisher 202 = .ok (.iconst 1, 1) := by decide +kernel
theorem dX6_readWisher_203 : decode cX6_readWisher 203 = .ok (.iadd, 1) := by decide +kernel
theorem dX6_readWisher_204 : decode cX6_readWisher 204 = .ok (.iastore, 1) := by decide +kernel
theorem dX6_readWisher_205 : decode cX6_readWisher 205 = .ok (.return_, 1) := by decide +kernel
theorem dX6_land_0 : decode cX6_land 0 = .ok (.aload_n 0, 1) := by decide +kernel
theorem dX6_land_1 : decode cX6_land 1 = .ok (.iconst 0, 1) := by decide +kernel
theorem dX6_land_2 : decode cX6_land 2 = .ok (.putfield 54, 3) := by decide +kernel
theorem dX6_land_5 : decode cX6_land 5 = .ok (.aload_n 0, 1) := by decide +kernel
theorem dX6_land_6 : decode cX6_land 6 = .ok (.invokevirtual 136, 3) := by decide +kernel
theorem dX6_land_9 : decode cX6_land 9 = .ok (.iconst 0, 1) := by decide +kernel
theorem dX6_land_10 : decode cX6_land 10 = .ok (.istore_n 1, 1) := by decide +kernel
theorem dX6_land_11 : decode cX6_land 11 = .ok (.iload_n 1, 1) := by decide +kernel
theorem dX6_land_12 : decode cX6_land 12 = .ok (.bipush 64, 2) := by decide +kernel
theorem dX6_land_14 : decode cX6_land 14 = .ok (.if_icmp .ge 16, 3) := by decide +kernel
theorem dX6_land_17 : decode cX6_land 17 = .ok (.aload_n 0, 1) := by decide +kernel
theorem dX6_land_18 : decode cX6_land 18 = .ok (.getfield 22, 3) := by decide +kernel
theorem dX6_land_21 : decode cX6_land 21 = .ok (.iload_n 1, 1) := by decide +kernel
theorem dX6_land_22 : decode cX6_land 22 = .ok (.iconst 0, 1) := by decide +kernel
theorem dX6_land_23 : decode cX6_land 23 = .ok (.iastore, 1) := by decide +kernel
theorem dX6_land_24 : decode cX6_land 24 = .ok (.iinc 1 1, 3) := by decide +kernel
theorem dX6_land_27 : decode cX6_land 27 = .ok (.goto (-16), 3) := by decide +kernel
theorem dX6_land_30 : decode cX6_land 30 = .ok (.aload_n 0, 1) := by decide +kernel
theorem dX6_land_31 : decode cX6_land 31 = .ok (.aload_n 0, 1) := by decide +kernel
theorem dX6_land_32 : decode cX6_land 32 = .ok (.bipush 99, 2) := by decide +kernel
theorem dX6_land_34 : decode cX6_land 34 = .ok (.invokevirtual 139, 3) := by decide +kernel
theorem dX6_land_37 : decode cX6_land 37 = .ok (.invokevirtual 119, 3) := by decide +kernel
theorem dX6_land_40 : decode cX6_land 40 = .ok (.aload_n 0, 1) := by decide +kernel
theorem dX6_land_41 : decode cX6_land 41 = .ok (.getfield 22, 3) := by decide +kernel
theorem dX6_land_44 : decode cX6_land 44 = .ok (.iconst 0, 1) := by decide +kernel
theorem dX6_land_45 : decode cX6_land 45 = .ok (.aload_n 0, 1) := by decide +kernel
theorem dX6_land_46 : decode cX6_land 46 = .ok (.iconst 2, 1) := by decide +kernel
theorem dX6_land_47 : decode cX6_land 47 = .ok (.bipush 6, 2) := by decide +kernel
theorem dX6_land_49 : decode cX6_land 49 = .ok (.invokevirtual 126, 3) := by decide +kernel
theorem dX6_land_52 : decode cX6_land 52 = .ok (.iastore, 1) := by decide +kernel
theorem dX6_land_53 : decode cX6_land 53 = .ok (.aload_n 0, 1) := by decide +kernel
theorem dX6_land_54 : decode cX6_land 54 = .ok (.bipush 44, 2) := by decide +kernel
theorem dX6_land_56 : decode cX6_land 56 = .ok (.invokevirtual 130, 3) := by decide +kernel
theorem dX6_land_59 : decode cX6_land 59 = .ok (.aload_n 0, 1) := by decide +kernel
theorem dX6_land_60 : decode cX6_land 60 = .ok (.getfield 22, 3) := by decide +kernel
theorem dX6_land_63 : decode cX6_land 63 = .ok (.iconst 1, 1) := by decide +kernel
theorem dX6_land_64 : decode cX6_land 64 = .ok (.aload_n 0, 1) := by decide +kernel
theorem dX6_land_65 : decode cX6_land 65 = .ok (.iconst 0, 1) := by decide +kernel
theorem dX6_land_66 : decode cX6_land 66 = .ok (.aload_n 0, 1) := by decide +kernel
theorem dX6_land_67 : decode cX6_land 67 = .ok (.getfield 22, 3) := by decide +kernel
theorem dX6_land_70 : decode cX6_land 70 = .ok (.iconst 0, 1) := by decide +kernel
theorem dX6_land_71 : decode cX6_land 71 = .ok (.iaload, 1) := by decide +kernel
theorem dX6_land_72 : decode cX6_land 72 = .ok (.iconst 1, 1) := by decide +kernel
theorem dX6_land_73 : decode cX6_land 73 = .ok (.isub, 1) := by decide +kernel
theorem dX6_land_74 : decode cX6_land 74 = .ok (.invokevirtual 126, 3) := by decide +kernel
theorem dX6_land_77 : decode cX6_land 77 = .ok (.iastore, 1) := by decide +kernel
theorem dX6_land_78 : decode cX6_land 78 = .ok (.aload_n 0, 1) := by decide +kernel
theorem dX6_land_79 : decode cX6_land 79 = .ok (.bipush 44, 2) := by decide +kernel
theorem dX6_land_81 : decode cX6_land 81 = .ok (.invokevirtual 130, 3) := by decide +kernel
theorem dX6_land_84 : decode cX6_land 84 = .ok (.aload_n 0, 1) := by decide +kernel
theorem dX6_land_85 : decode cX6_land 85 = .ok (.getfield 22, 3) := by decide +kernel
theorem dX6_land_88 : decode cX6_land 88 = .ok (.iconst 2, 1) := by decide +kernel
theorem dX6_land_89 : decode cX6_land 89 = .ok (.aload_n 0, 1) := by decide +kernel
theorem dX6_land_90 : decode cX6_land 90 = .ok (.iconst 0, 1) := by decide +kernel
theorem dX6_land_91 : decode cX6_land 91 = .ok (.bipush 20, 2) := by decide +kernel
theorem dX6_land_93 : decode cX6_land 93 = .ok (.invokevirtual 126, 3) := by decide +kernel
theorem dX6_land_96 : decode cX6_land 96 = .ok (.iastore, 1) := by decide +kernel
theorem dX6_land_97 : decode cX6_land 97 = .ok (.aload_n 0, 1) := by decide +kernel
theorem dX6_land_98 : decode cX6_land 98 = .ok (.bipush 44, 2) := by decide +kernel
theorem dX6_land_100 : decode cX6_land 100 = .ok (.invokevirtual 130, 3) := by decide +kernel
theorem dX6_land_103 : decode cX6_land 103 = .ok (.aload_n 0, 1) := by decide +kernel
theorem dX6_land_104 : decode cX6_land 104 = .ok (.getfield 22, 3) := by decide +kernel
theorem dX6_land_107 : decode cX6_land 107 = .ok (.iconst 3, 1) := by decide +kernel
theorem dX6_land_108 : decode cX6_land 108 = .ok (.aload_n 0, 1) := by decide +kernel
theorem dX6_land_109 : decode cX6_land 109 = .ok (.iconst 0, 1) := by decide +kernel
theorem dX6_land_110 : decode cX6_land 110 = .ok (.iconst 5, 1) := by decide +kernel
theorem dX6_land_111 : decode cX6_land 111 = .ok (.invokevirtual 126, 3) := by decide +kernel
theorem dX6_land_114 : decode cX6_land 114 = .ok (.iastore, 1) := by decide +kernel
theorem dX6_land_115 : decode cX6_land 115 = .ok (.aload_n 0, 1) := by decide +kernel
theorem dX6_land_116 : decode cX6_land 116 = .ok (.bipush 59, 2) := by decide +kernel
theorem dX6_land_118 : decode cX6_land 118 = .ok (.invokevirtual 130, 3) := by decide +kernel
theorem dX6_land_121 : decode cX6_land 121 = .ok (.aload_n 0, 1) := by decide +kernel
theorem dX6_land_122 : decode cX6_land 122 = .ok (.bipush 114, 2) := by decide +kernel
theorem dX6_land_124 : decode cX6_land 124 = .ok (.invokevirtual 139, 3) := by decide +kernel
theorem dX6_land_127 : decode cX6_land 127 = .ok (.ifCond .eq 10, 3) := by decide +kernel
theorem dX6_land_130 : decode cX6_land 130 = .ok (.aload_n 0, 1) := by decide +kernel
theorem dX6_land_131 : decode cX6_land 131 = .ok (.invokevirtual 142, 3) := by decide +kernel
theorem dX6_land_134 : decode cX6_land 134 = .ok (.goto (-13), 3) := by decide +kernel
theorem dX6_land_137 : decode cX6_land 137 = .ok (.aload_n 0, 1) := by decide +kernel
theorem dX6_land_138 : decode cX6_land 138 = .ok (.getfield 85, 3) := by decide +kernel
theorem dX6_land_141 : decode cX6_land 141 = .ok (.ifCond .ne 30, 3) := by decide +kernel
theorem dX6_land_144 : decode cX6_land 144 = .ok (.aload_n 0, 1) := by decide +kernel
theorem dX6_land_145 : decode cX6_land 145 = .ok (.getfield 109, 3) := by decide +kernel
theorem dX6_land_148 : decode cX6_land 148 = .ok (.iconst 2, 1) := by decide +kernel
theorem dX6_land_149 : decode cX6_land 149 = .ok (.if_icmp .ne 22, 3) := by decide +kernel
theorem dX6_land_152 : decode cX6_land 152 = .ok (.aload_n 0, 1) := by decide +kernel
theorem dX6_land_153 : decode cX6_land 153 = .ok (.getfield 98, 3) := by decide +kernel
theorem dX6_land_156 : decode cX6_land 156 = .ok (.invokestatic 133, 3) := by decide +kernel
theorem dX6_land_159 : decode cX6_land 159 = .ok (.ldc 97, 2) := by decide +kernel
theorem dX6_land_161 : decode cX6_land 161 = .ok (.if_icmp .eq 10, 3) := by decide +kernel
theorem dX6_land_164 : decode cX6_land 164 = .ok (.aload_n 0, 1) := by decide +kernel
theorem dX6_land_165 : decode cX6_land 165 = .ok (.invokevirtual 145, 3) := by decide +kernel
theorem dX6_land_168 : decode cX6_land 168 = .ok (.goto (-31), 3) := by decide +kernel
theorem dX6_land_171 : decode cX6_land 171 = .ok (.aload_n 0, 1) := by decide +kernel
theorem dX6_land_172 : decode cX6_land 172 = .ok (.invokevirtual 148, 3) := by decide +kernel
theorem dX6_land_175 : decode cX6_land 175 = .ok (.ifCond .eq 11, 3) := by decide +kernel
theorem dX6_land_178 : decode cX6_land 178 = .ok (.ldc 152, 2) := by decide +kernel
theorem dX6_land_180 : decode cX6_land 180 = .ok (.aload_n 0, 1) := by decide +kernel
theorem dX6_land_181 : decode cX6_land 181 = .ok (.getfield 91, 3) := by decide +kernel
theorem dX6_land_184 : decode cX6_land 184 = .ok (.isub, 1) := by decide +kernel
theorem dX6_land_185 : decode cX6_land 185 = .ok (.ireturn, 1) := by decide +kernel
theorem dX6_land_186 : decode cX6_land 186 = .ok (.aload_n 0, 1) := by decide +kernel
theorem dX6_land_187 : decode cX6_land 187 = .ok (.iconst 0, 1) := by decide +kernel
theorem dX6_land_188 : decode cX6_land 188 = .ok (.putfield 153, 3) := by decide +kernel
theorem dX6_land_191 : decode cX6_land 191 = .ok (.iconst 0, 1) := by decide +kernel
theorem dX6_land_192 : decode cX6_land 192 = .ok (.istore_n 1, 1) := by decide +kernel
theorem dX6_land_193 : decode cX6_land 193 = .ok (.iload_n 1, 1) := by decide +kernel
theorem dX6_land_194 : decode cX6_land 194 = .ok (.bipush 64, 2) := by decide +kernel
theorem dX6_land_196 : decode cX6_land 196 = .ok (.if_icmp .ge 21, 3) := by decide +kernel
theorem dX6_land_199 : decode cX6_land 199 = .ok (.aload_n 0, 1) := by decide +kernel
theorem dX6_land_200 : decode cX6_land 200 = .ok (.getfield 19, 3) := by decide +kernel
theorem dX6_land_203 : decode cX6_land 203 = .ok (.iload_n 1, 1) := by decide +kernel
theorem dX6_land_204 : decode cX6_land 204 = .ok (.aload_n 0, 1) := by decide +kernel
theorem dX6_land_205 : decode cX6_land 205 = .ok (.getfield 22, 3) := by decide +kernel
theorem dX6_land_208 : decode cX6_land 208 = .ok (.iload_n 1, 1) := by decide +kernel
theorem dX6_land_209 : decode cX6_land 209 = .ok (.iaload, 1) := by decide +kernel
theorem dX6_land_210 : decode cX6_land 210 = .ok (.iastore, 1) := by decide +kernel
theorem dX6_land_211 : decode cX6_land 211 = .ok (.iinc 1 1, 3) := by decide +kernel
theorem dX6_land_214 : decode cX6_land 214 = .ok (.goto (-21), 3) := by decide +kernel
theorem dX6_land_217 : decode cX6_land 217 = .ok (.aload_n 0, 1) := by decide +kernel
theorem dX6_land_218 : decode cX6_land 218 = .ok (.invokevirtual 156, 3) := by decide +kernel
theorem dX6_land_221 : decode cX6_land 221 = .ok (.aload_n 0, 1) := by decide +kernel
theorem dX6_land_222 : decode cX6_land 222 = .ok (.getfield 19, 3) := by decide +kernel
theorem dX6_land_225 : decode cX6_land 225 = .ok (.iconst 5, 1) := by decide +kernel
theorem dX6_land_226 : decode cX6_land 226 = .ok (.iaload, 1) := by decide +kernel
theorem dX6_land_227 : decode cX6_land 227 = .ok (.ireturn, 1) := by decide +kernel
theorem dX6_isThere_0 : decode cX6_isThere 0 = .ok (.aload_n 0, 1) := by decide +kernel
theorem dX6_isThere_1 : decode cX6_isThere 1 = .ok (.getfield 19, 3) := by decide +kernel
theorem dX6_isThere_4 : decode cX6_isThere 4 = .ok (.iconst 0, 1) := by decide +kernel
theorem dX6_isThere_5 : decode cX6_isThere 5 = .ok (.iaload, 1) := by decide +kernel
theorem dX6_isThere_6 : decode cX6_isThere 6 = .ok (.ifCond .le 7, 3) := by decide +kernel
theorem dX6_isThere_9 : decode cX6_isThere 9 = .ok (.iconst 1, 1) := by decide +kernel
theorem dX6_isThere_10 : decode cX6_isThere 10 = .ok (.goto 4, 3) := by decide +kernel
theorem dX6_isThere_13 : decode cX6_isThere 13 = .ok (.iconst 0, 1) := by decide +kernel
theorem dX6_isThere_14 : decode cX6_isThere 14 = .ok (.ireturn, 1) := by decide +kernel
theorem dX6_isPlace_0 : decode cX6_isPlace 0 = .ok (.iload_n 1, 1) := by decide +kernel
theorem dX6_isPlace_1 : decode cX6_isPlace 1 = .ok (.i2l, 1) := by decide +kernel
theorem dX6_isPlace_2 : decode cX6_isPlace 2 = .ok (.lconst 0, 1) := by decide +kernel
theorem dX6_isPlace_3 : decode cX6_isPlace 3 = .ok (.aload_n 0, 1) := by decide +kernel
theorem dX6_isPlace_4 : decode cX6_isPlace 4 = .ok (.getfield 19, 3) := by decide +kernel
theorem dX6_isPlace_7 : decode cX6_isPlace 7 = .ok (.iconst 0, 1) := by decide +kernel
theorem dX6_isPlace_8 : decode cX6_isPlace 8 = .ok (.iaload, 1) := by decide +kernel
theorem dX6_isPlace_9 : decode cX6_isPlace 9 = .ok (.iconst 1, 1) := by decide +kernel
theorem dX6_isPlace_10 : decode cX6_isPlace 10 = .ok (.isub, 1) := by decide +kernel
theorem dX6_isPlace_11 : decode cX6_isPlace 11 = .ok (.i2l, 1) := by decide +kernel
theorem dX6_isPlace_12 : decode cX6_isPlace 12 = .ok (.invokestatic 64, 3) := by decide +kernel
theorem dX6_isPlace_15 : decode cX6_isPlace 15 = .ok (.ireturn, 1) := by decide +kernel
theorem dX6_isWisher_0 : decode cX6_isWisher 0 = .ok (.iload_n 1, 1) := by decide +kernel
theorem dX6_isWisher_1 : decode cX6_isWisher 1 = .ok (.i2l, 1) := by decide +kernel
theorem dX6_isWisher_2 : decode cX6_isWisher 2 = .ok (.lconst 0, 1) := by decide +kernel
theorem dX6_isWisher_3 : decode cX6_isWisher 3 = .ok (.aload_n 0, 1) := by decide +kernel
theorem dX6_isWisher_4 : decode cX6_isWisher 4 = .ok (.getfield 19, 3) := by decide +kernel
theorem dX6_isWisher_7 : decode cX6_isWisher 7 = .ok (.iconst 5, 1) := by decide +kernel
theorem dX6_isWisher_8 : decode cX6_isWisher 8 = .ok (.iaload, 1) := by decide +kernel
theorem dX6_isWisher_9 : decode cX6_isWisher 9 = .ok (.iconst 1, 1) := by decide +kernel
theorem dX6_isWisher_10 : decode cX6_isWisher 10 = .ok (.isub, 1) := by decide +kernel
theorem dX6_isWisher_11 : decode cX6_isWisher 11 = .ok (.i2l, 1) := by decide +kernel
theorem dX6_isWisher_12 : decode cX6_isWisher 12 = .ok (.invokestatic 64, 3) := by decide +kernel
theorem dX6_isWisher_15 : decode cX6_isWisher 15 = .ok (.ireturn, 1) := by decide +kernel
theorem dX6_of_0 : decode cX6_of 0 = .ok (.aload_n 0, 1) := by decide +kernel
theorem dX6_of_1 : decode cX6_of 1 = .ok (.bipush 16, 2) := by decide +kernel
theorem dX6_of_3 : decode cX6_of 3 = .ok (.bipush 8, 2) := by decide +kernel
theorem dX6_of_5 : decode cX6_of 5 = .ok (.iload_n 1, 1) := by decide +kernel
theorem dX6_of_6 : decode cX6_of 6 = .ok (.imul, 1) := by decide +kernel
theorem dX6_of_7 : decode cX6_of 7 = .ok (.iadd, 1) := by decide +kernel
theorem dX6_of_8 : decode cX6_of 8 = .ok (.iload_n 2, 1) := by decide +kernel
theorem dX6_of_9 : decode cX6_of 9 = .ok (.iadd, 1) := by decide +kernel
theorem dX6_of_10 : decode cX6_of 10 = .ok (.iaload, 1) := by decide +kernel
theorem dX6_of_11 : decode cX6_of 11 = .ok (.ireturn, 1) := by decide +kernel
theorem dX6_layFar_0 : decode cX6_layFar 0 = .ok (.iconst 0, 1) := by decide +kernel
theorem dX6_layFar_1 : decode cX6_layFar 1 = .ok (.istore_n 1, 1) := by decide +kernel
theorem dX6_layFar_2 : decode cX6_layFar 2 = .ok (.iload_n 1, 1) := by decide +kernel
theorem dX6_layFar_3 : decode cX6_layFar 3 = .ok (.aload_n 0, 1) := by decide +kernel
theorem dX6_layFar_4 : decode cX6_layFar 4 = .ok (.getfield 19, 3) := by decide +kernel
theorem dX6_layFar_7 : decode cX6_layFar 7 = .ok (.iconst 0, 1) := by decide +kernel
theorem dX6_layFar_8 : decode cX6_layFar 8 = .ok (.iaload, 1) := by decide +kernel
theorem dX6_layFar_9 : decode cX6_layFar 9 = .ok (.if_icmp .ge 182, 3) := by decide +kernel
theorem dX6_layFar_12 : decode cX6_layFar 12 = .ok (.iconst 1, 1) := by decide +kernel
theorem dX6_layFar_13 : decode cX6_layFar 13 = .ok (.iload_n 1, 1) := by decide +kernel
theorem dX6_layFar_14 : decode cX6_layFar 14 = .ok (.ishl, 1) := by decide +kernel
theorem dX6_layFar_15 : decode cX6_layFar 15 = .ok (.istore_n 2, 1) := by decide +kernel
theorem dX6_layFar_16 : decode cX6_layFar 16 = .ok (.iconst 0, 1) := by decide +kernel
theorem dX6_layFar_17 : decode cX6_layFar 17 = .ok (.istore_n 3, 1) := by decide +kernel
theorem dX6_layFar_18 : decode cX6_layFar 18 = .ok (.iload_n 3, 1) := by decide +kernel
theorem dX6_layFar_19 : decode cX6_layFar 19 = .ok (.bipush 6, 2) := by decide +kernel
theorem dX6_layFar_21 : decode cX6_layFar 21 = .ok (.if_icmp .ge 31, 3) := by decide +kernel
theorem dX6_layFar_24 : decode cX6_layFar 24 = .ok (.aload_n 0, 1) := by decide +kernel
theorem dX6_layFar_25 : decode cX6_layFar 25 = .ok (.getfield 34, 3) := by decide +kernel
theorem dX6_layFar_28 : decode cX6_layFar 28 = .ok (.bipush 6, 2) := by decide +kernel
theorem dX6_layFar_30 : decode cX6_layFar 30 = .ok (.iload_n 1, 1) := by decide +kernel
theorem dX6_layFar_31 : decode cX6_layFar 31 = .ok (.imul, 1) := by decide +kernel
theorem dX6_layFar_32 : decode cX6_layFar 32 = .ok (.iload_n 3, 1) := by decide +kernel
theorem dX6_layFar_33 : decode cX6_layFar 33 = .ok (.iadd, 1) := by decide +kernel
theorem dX6_layFar_34 : decode cX6_layFar 34 = .ok (.iload_n 1, 1) := by decide +kernel
theorem dX6_layFar_35 : decode cX6_layFar 35 = .ok (.iload_n 3, 1) := by decide +kernel
theorem dX6_layFar_36 : decode cX6_layFar 36 = .ok (.if_icmp .ne 7, 3) := by decide +kernel
theorem dX6_layFar_39 : decode cX6_layFar 39 = .ok (.iconst 0, 1) := by decide +kernel
theorem dX6_layFar_40 : decode cX6_layFar 40 = .ok (.goto 5, 3) := by decide +kernel
theorem dX6_layFar_43 : decode cX6_layFar 43 = .ok (.bipush 9, 2) := by decide +kernel
theorem dX6_layFar_45 : decode cX6_layFar 45 = .ok (.iastore, 1) := by decide +kernel
theorem dX6_layFar_46 : decode cX6_layFar 46 = .ok (.iinc 3 1, 3) := by decide +kernel
theorem dX6_layFar_49 : decode cX6_layFar 49 = .ok (.goto (-31), 3) := by decide +kernel
theorem dX6_layFar_52 : decode cX6_layFar 52 = .ok (.iconst 1, 1) := by decide +kernel
theorem dX6_layFar_53 : decode cX6_layFar 53 = .ok (.istore_n 3, 1) := by decide +kernel
theorem dX6_layFar_54 : decode cX6_layFar 54 = .ok (.iload_n 3, 1) := by decide +kernel
theorem dX6_layFar_55 : decode cX6_layFar 55 = .ok (.bipush 6, 2) := by decide +kernel
theorem dX6_layFar_57 : decode cX6_layFar 57 = .ok (.if_icmp .ge 128, 3) := by decide +kernel
theorem dX6_layFar_60 : decode cX6_layFar 60 = .ok (.iconst 0, 1) := by decide +kernel
theorem dX6_layFar_61 : decode cX6_layFar 61 = .ok (.istore 4, 2) := by decide +kernel
theorem dX6_layFar_63 : decode cX6_layFar 63 = .ok (.iconst 0, 1) := by decide +kernel
theorem dX6_layFar_64 : decode cX6_layFar 64 = .ok (.istore 5, 2) := by decide +kernel
theorem dX6_layFar_66 : decode cX6_layFar 66 = .ok (.iload 5, 2) := by decide +kernel
theorem dX6_layFar_68 : decode cX6_layFar 68 = .ok (.aload_n 0, 1) := by decide +kernel
theorem dX6_layFar_69 : decode cX6_layFar 69 = .ok (.getfield 19, 3) := by decide +kernel
theorem dX6_layFar_72 : decode cX6_layFar 72 = .ok (.iconst 0, 1) := by decide +kernel
theorem dX6_layFar_73 : decode cX6_layFar 73 = .ok (.iaload, 1) := by decide +kernel
theorem dX6_layFar_74 : decode cX6_layFar 74 = .ok (.if_icmp .ge 38, 3) := by decide +kernel
theorem dX6_layFar_77 : decode cX6_layFar 77 = .ok (.iload 4, 2) := by decide +kernel
theorem dX6_layFar_79 : decode cX6_layFar 79 = .ok (.iload_n 2, 1) := by decide +kernel
theorem dX6_layFar_80 : decode cX6_layFar 80 = .ok (.iload 5, 2) := by decide +kernel
theorem dX6_layFar_82 : decode cX6_layFar 82 = .ok (.ishr, 1) := by decide +kernel
theorem dX6_layFar_83 : decode cX6_layFar 83 = .ok (.iconst 1, 1) := by decide +kernel
theorem dX6_layFar_84 : decode cX6_layFar 84 = .ok (.iand, 1) := by decide +kernel
theorem dX6_layFar_85 : decode cX6_layFar 85 = .ok (.iconst 1, 1) := by decide +kernel
theorem dX6_layFar_86 : decode cX6_layFar 86 = .ok (.if_icmp .ne 16, 3) := by decide +kernel
theorem dX6_layFar_89 : decode cX6_layFar 89 = .ok (.aload_n 0, 1) := by decide +kernel
theorem dX6_layFar_90 : decode cX6_layFar 90 = .ok (.getfield 19, 3) := by decide +kernel
theorem dX6_layFar_93 : decode cX6_layFar 93 = .ok (.bipush 10, 2) := by decide +kernel
theorem dX6_layFar_95 : decode cX6_layFar 95 = .ok (.iload 5, 2) := by decide +kernel
theorem dX6_layFar_97 : decode cX6_layFar 97 = .ok (.iadd, 1) := by decide +kernel
theorem dX6_layFar_98 : decode cX6_layFar 98 = .ok (.iaload, 1) := by decide +kernel
theorem dX6_layFar_99 : decode cX6_layFar 99 = .ok (.goto 4, 3) := by decide +kernel
theorem dX6_layFar_102 : decode cX6_layFar 102 = .ok (.iconst 0, 1) := by decide +kernel
theorem dX6_layFar_103 : decode cX6_layFar 103 = .ok (.ior, 1) := by decide +kernel
theorem dX6_layFar_104 : decode cX6_layFar 104 = .ok (.istore 4, 2) := by decide +kernel
theorem dX6_layFar_106 : decode cX6_layFar 106 = .ok (.iinc 5 1, 3) := by decide +kernel
theorem dX6_layFar_109 : decode cX6_layFar 109 = .ok (.goto (-43), 3) := by decide +kernel
theorem dX6_layFar_112 : decode cX6_layFar 112 = .ok (.iconst 0, 1) := by decide +kernel
theorem dX6_layFar_113 : decode cX6_layFar 113 = .ok (.istore 5, 2) := by decide +kernel
theorem dX6_layFar_115 : decode cX6_layFar 115 = .ok (.iload 5, 2) := by decide +kernel
theorem dX6_layFar_117 : decode cX6_layFar 117 = .ok (.aload_n 0, 1) := by decide +kernel
theorem dX6_layFar_118 : decode cX6_layFar 118 = .ok (.getfield 19, 3) := by decide +kernel
theorem dX6_layFar_121 : decode cX6_layFar 121 = .ok (.iconst 0, 1) := by decide +kernel
theorem dX6_layFar_122 : decode cX6_layFar 122 = .ok (.iaload, 1) := by decide +kernel
theorem dX6_layFar_123 : decode cX6_layFar 123 = .ok (.if_icmp .ge 51, 3) := by decide +kernel
theorem dX6_layFar_126 : decode cX6_layFar 126 = .ok (.aload_n 0, 1) := by decide +kernel
theorem dX6_layFar_127 : decode cX6_layFar 127 = .ok (.getfield 34, 3) := by decide +kernel
theorem dX6_layFar_130 : decode cX6_layFar 130 = .ok (.bipush 6, 2) := by decide +kernel
theorem dX6_layFar_132 : decode cX6_layFar 132 = .ok (.iload_n 1, 1) := by decide +kernel
theorem dX6_layFar_133 : decode cX6_layFar 133 = .ok (.imul, 1) := by decide +kernel
theorem dX6_layFar_134 : decode cX6_layFar 134 = .ok (.iload 5, 2) := by decide +kernel
theorem dX6_layFar_136 : decode cX6_layFar 136 = .ok (.iadd, 1) := by decide +kernel
theorem dX6_layFar_137 : decode cX6_layFar 137 = .ok (.iload 4, 2) := by decide +kernel
theorem dX6_layFar_139 : decode cX6_layFar 139 = .ok (.iload_n 2, 1) := by decide +kernel
theorem dX6_layFar_140 : decode cX6_layFar 140 = .ok (.iconst (-1), 1) := by decide +kernel
theorem dX6_layFar_141 : decode cX6_layFar 141 = .ok (.ixor, 1) := by decide +kernel
theorem dX6_layFar_142 : decode cX6_layFar 142 = .ok (.iand, 1) := by decide +kernel
theorem dX6_layFar_143 : decode cX6_layFar 143 = .ok (.iload 5, 2) := by decide +kernel
theorem dX6_layFar_145 : decode cX6_layFar 145 = .ok (.ishr, 1) := by decide +kernel
theorem dX6_layFar_146 : decode cX6_layFar 146 = .ok (.iconst 1, 1) := by decide +kernel
theorem dX6_layFar_147 : decode cX6_layFar 147 = .ok (.iand, 1) := by decide +kernel
theorem dX6_layFar_148 : decode cX6_layFar 148 = .ok (.ifCond .ne 18, 3) := by decide +kernel
theorem dX6_layFar_151 : decode cX6_layFar 151 = .ok (.aload_n 0, 1) := by decide +kernel
theorem dX6_layFar_152 : decode cX6_layFar 152 = .ok (.getfield 34, 3) := by decide +kernel
theorem dX6_layFar_155 : decode cX6_layFar 155 = .ok (.bipush 6, 2) := by decide +kernel
theorem dX6_layFar_157 : decode cX6_layFar 157 = .ok (.iload_n 1, 1) := by decide +kernel
theorem dX6_layFar_158 : decode cX6_layFar 158 = .ok (.imul, 1) := by decide +kernel
theorem dX6_layFar_159 : decode cX6_layFar 159 = .ok (.iload 5, 2) := by decide +kernel
theorem dX6_layFar_161 : decode cX6_layFar 161 = .ok (.iadd, 1) := by decide +kernel
theorem dX6_layFar_162 : decode cX6_layFar 162 = .ok (.iaload, 1) := by decide +kernel
theorem dX6_layFar_163 : decode cX6_layFar 163 = .ok (.goto 4, 3) := by decide +kernel
theorem dX6_layFar_166 : decode cX6_layFar 166 = .ok (.iload_n 3, 1) := by decide +kernel
theorem dX6_layFar_167 : decode cX6_layFar 167 = .ok (.iastore, 1) := by decide +kernel
theorem dX6_layFar_168 : decode cX6_layFar 168 = .ok (.iinc 5 1, 3) := by decide +kernel
theorem dX6_layFar_171 : decode cX6_layFar 171 = .ok (.goto (-56), 3) := by decide +kernel
theorem dX6_layFar_174 : decode cX6_layFar 174 = .ok (.iload_n 2, 1) := by decide +kernel
theorem dX6_layFar_175 : decode cX6_layFar 175 = .ok (.iload 4, 2) := by decide +kernel
theorem dX6_layFar_177 : decode cX6_layFar 177 = .ok (.ior, 1) := by decide +kernel
theorem dX6_layFar_178 : decode cX6_layFar 178 = .ok (.istore_n 2, 1) := by decide +kernel
theorem dX6_layFar_179 : decode cX6_layFar 179 = .ok (.iinc 3 1, 3) := by decide +kernel
theorem dX6_layFar_182 : decode cX6_layFar 182 = .ok (.goto (-128), 3) := by decide +kernel
theorem dX6_layFar_185 : decode cX6_layFar 185 = .ok (.iinc 1 1, 3) := by decide +kernel
theorem dX6_layFar_188 : decode cX6_layFar 188 = .ok (.goto (-186), 3) := by decide +kernel
theorem dX6_layFar_191 : decode cX6_layFar 191 = .ok (.return_, 1) := by decide +kernel
theorem dX6_farBy_0 : decode cX6_farBy 0 = .ok (.aload_n 0, 1) := by decide +kernel
theorem dX6_farBy_1 : decode cX6_farBy 1 = .ok (.getfield 34, 3) := by decide +kernel
theorem dX6_farBy_4 : decode cX6_farBy 4 = .ok (.bipush 6, 2) := by decide +kernel
theorem dX6_farBy_6 : decode cX6_farBy 6 = .ok (.iload_n 1, 1) := by decide +kernel
theorem dX6_farBy_7 : decode cX6_farBy 7 = .ok (.imul, 1) := by decide +kernel
theorem dX6_farBy_8 : decode cX6_farBy 8 = .ok (.iload_n 2, 1) := by decide +kernel
theorem dX6_farBy_9 : decode cX6_farBy 9 = .ok (.iadd, 1) := by decide +kernel
theorem dX6_farBy_10 : decode cX6_farBy 10 = .ok (.iaload, 1) := by decide +kernel
theorem dX6_farBy_11 : decode cX6_farBy 11 = .ok (.ireturn, 1) := by decide +kernel
theorem dX6_wishes_0 : decode cX6_wishes 0 = .ok (.aload_n 0, 1) := by decide +kernel
theorem dX6_wishes_1 : decode cX6_wishes 1 = .ok (.iload_n 1, 1) := by decide +kernel
theorem dX6_wishes_2 : decode cX6_wishes 2 = .ok (.bipush 7, 2) := by decide +kernel
theorem dX6_wishes_4 : decode cX6_wishes 4 = .ok (.invokestatic 159, 3) := by decide +kernel
theorem dX6_wishes_7 : decode cX6_wishes 7 = .ok (.ifCond .ne 33, 3) := by decide +kernel
theorem dX6_wishes_10 : decode cX6_wishes 10 = .ok (.aload_n 0, 1) := by decide +kernel
theorem dX6_wishes_11 : decode cX6_wishes 11 = .ok (.bipush 6, 2) := by decide +kernel
theorem dX6_wishes_13 : decode cX6_wishes 13 = .ok (.iaload, 1) := by decide +kernel
theorem dX6_wishes_14 : decode cX6_wishes 14 = .ok (.bipush 6, 2) := by decide +kernel
theorem dX6_wishes_16 : decode cX6_wishes 16 = .ok (.iadd, 1) := by decide +kernel
theorem dX6_wishes_17 : decode cX6_wishes 17 = .ok (.aload_n 0, 1) := by decide +kernel
theorem dX6_wishes_18 : decode cX6_wishes 18 = .ok (.iload_n 1, 1) := by decide +kernel
theorem dX6_wishes_19 : decode cX6_wishes 19 = .ok (.iconst 4, 1) := by decide +kernel
theorem dX6_wishes_20 : decode cX6_wishes 20 = .ok (.invokestatic 159, 3) := by decide +kernel
theorem dX6_wishes_23 : decode cX6_wishes 23 = .ok (.isub, 1) := by decide +kernel
theorem dX6_wishes_24 : decode cX6_wishes 24 = .ok (.bipush 6, 2) := by decide +kernel
theorem dX6_wishes_26 : decode cX6_wishes 26 = .ok (.irem, 1) := by decide +kernel
theorem dX6_wishes_27 : decode cX6_wishes 27 = .ok (.aload_n 0, 1) := by decide +kernel
theorem dX6_wishes_28 : decode cX6_wishes 28 = .ok (.iload_n 1, 1) := by decide +kernel
theorem dX6_wishes_29 : decode cX6_wishes 29 = .ok (.iconst 5, 1) := by decide +kernel
theorem dX6_wishes_30 : decode cX6_wishes 30 = .ok (.invokestatic 159, 3) := by decide +kernel
theorem dX6_wishes_33 : decode cX6_wishes 33 = .ok (.if_icmp .ge 7, 3) := by decide +kernel
theorem dX6_wishes_36 : decode cX6_wishes 36 = .ok (.iconst 1, 1) := by decide +kernel
theorem dX6_wishes_37 : decode cX6_wishes 37 = .ok (.goto 4, 3) := by decide +kernel
theorem dX6_wishes_40 : decode cX6_wishes 40 = .ok (.iconst 0, 1) := by decide +kernel
theorem dX6_wishes_41 : decode cX6_wishes 41 = .ok (.ireturn, 1) := by decide +kernel
theorem dX6_atLeastNone_0 : decode cX6_atLeastNone 0 = .ok (.iload_n 0, 1) := by decide +kernel
theorem dX6_atLeastNone_1 : decode cX6_atLeastNone 1 = .ok (.ifCond .ge 7, 3) := by decide +kernel
theorem dX6_atLeastNone_4 : decode cX6_atLeastNone 4 = .ok (.iconst 0, 1) := by decide +kernel
theorem dX6_atLeastNone_5 : decode cX6_atLeastNone 5 = .ok (.goto 4, 3) := by decide +kernel
theorem dX6_atLeastNone_8 : decode cX6_atLeastNone 8 = .ok (.iload_n 0, 1) := by decide +kernel
theorem dX6_atLeastNone_9 : decode cX6_atLeastNone 9 = .ok (.ireturn, 1) := by decide +kernel
theorem dX6_wishBy_0 : decode cX6_wishBy 0 = .ok (.aload_n 1, 1) := by decide +kernel
theorem dX6_wishBy_1 : decode cX6_wishBy 1 = .ok (.iload_n 2, 1) := by decide +kernel
theorem dX6_wishBy_2 : decode cX6_wishBy 2 = .ok (.iconst 3, 1) := by decide +kernel
theorem dX6_wishBy_3 : decode cX6_wishBy 3 = .ok (.invokestatic 159, 3) := by decide +kernel
theorem dX6_wishBy_6 : decode cX6_wishBy 6 = .ok (.istore_n 3, 1) := by decide +kernel
theorem dX6_wishBy_7 : decode cX6_wishBy 7 = .ok (.aload_n 1, 1) := by decide +kernel
theorem dX6_wishBy_8 : decode cX6_wishBy 8 = .ok (.iload_n 2, 1) := by decide +kernel
theorem dX6_wishBy_9 : decode cX6_wishBy 9 = .ok (.bipush 6, 2) := by decide +kernel
theorem dX6_wishBy_11 : decode cX6_wishBy 11 = .ok (.invokestatic 159, 3) := by decide +kernel
theorem dX6_wishBy_14 : decode cX6_wishBy 14 = .ok (.istore 4, 2) := by decide +kernel
theorem dX6_wishBy_16 : decode cX6_wishBy 16 = .ok (.aload_n 0, 1) := by decide +kernel
theorem dX6_wishBy_17 : decode cX6_wishBy 17 = .ok (.aload_n 1, 1) := by decide +kernel
theorem dX6_wishBy_18 : decode cX6_wishBy 18 = .ok (.iload_n 2, 1) := by decide +kernel
theorem dX6_wishBy_19 : decode cX6_wishBy 19 = .ok (.iconst 1, 1) := by decide +kernel
theorem dX6_wishBy_20 : decode cX6_wishBy 20 = .ok (.invokestatic 159, 3) := by decide +kernel
theorem dX6_wishBy_23 : decode cX6_wishBy 23 = .ok (.aload_n 1, 1) := by decide +kernel
theorem dX6_wishBy_24 : decode cX6_wishBy 24 = .ok (.iload_n 2, 1) := by decide +kernel
theorem dX6_wishBy_25 : decode cX6_wishBy 25 = .ok (.iconst 2, 1) := by decide +kernel
theorem dX6_wishBy_26 : decode cX6_wishBy 26 = .ok (.invokestatic 159, 3) := by decide +kernel
theorem dX6_wishBy_29 : decode cX6_wishBy 29 = .ok (.invokevirtual 163, 3) := by decide +kernel
theorem dX6_wishBy_32 : decode cX6_wishBy 32 = .ok (.istore 5, 2) := by decide +kernel
theorem dX6_wishBy_34 : decode cX6_wishBy 34 = .ok (.aload_n 1, 1) := by decide +kernel
theorem dX6_wishBy_35 : decode cX6_wishBy 35 = .ok (.iload_n 2, 1) := by decide +kernel
theorem dX6_wishBy_36 : decode cX6_wishBy 36 = .ok (.iconst 0, 1) := by decide +kernel
theorem dX6_wishBy_37 : decode cX6_wishBy 37 = .ok (.invokestatic 159, 3) := by decide +kernel
theorem dX6_wishBy_40 : decode cX6_wishBy 40 = .ok (.tableswitch 87 1 4 #[32, 43, 51, 79], 32) := by decide +kernel
theorem dX6_wishBy_72 : decode cX6_wishBy 72 = .ok (.iload_n 3, 1) := by decide +kernel
theorem dX6_wishBy_73 : decode cX6_wishBy 73 = .ok (.iload 5, 2) := by decide +kernel
theorem dX6_wishBy_75 : decode cX6_wishBy 75 = .ok (.isub, 1) := by decide +kernel
theorem dX6_wishBy_76 : decode cX6_wishBy 76 = .ok (.iload 4, 2) := by decide +kernel
theorem dX6_wishBy_78 : decode cX6_wishBy 78 = .ok (.isub, 1) := by decide +kernel
theorem dX6_wishBy_79 : decode cX6_wishBy 79 = .ok (.invokestatic 166, 3) := by decide +kernel
theorem dX6_wishBy_82 : decode cX6_wishBy 82 = .ok (.ireturn, 1) := by decide +kernel
theorem dX6_wishBy_83 : decode cX6_wishBy 83 = .ok (.iload_n 3, 1) := by decide +kernel
theorem dX6_wishBy_84 : decode cX6_wishBy 84 = .ok (.iload 5, 2) := by decide +kernel
theorem dX6_wishBy_86 : decode cX6_wishBy 86 = .ok (.isub, 1) := by decide +kernel
theorem dX6_wishBy_87 : decode cX6_wishBy 87 = .ok (.invokestatic 166, 3) := by decide +kernel
theorem dX6_wishBy_90 : decode cX6_wishBy 90 = .ok (.ireturn, 1) := by decide +kernel
theorem dX6_wishBy_91 : decode cX6_wishBy 91 = .ok (.aload_n 1, 1) := by decide +kernel
theorem dX6_wishBy_92 : decode cX6_wishBy 92 = .ok (.bipush 6, 2) := by decide +kernel
theorem dX6_wishBy_94 : decode cX6_wishBy 94 = .ok (.iaload, 1) := by decide +kernel
theorem dX6_wishBy_95 : decode cX6_wishBy 95 = .ok (.bipush 6, 2) := by decide +kernel
theorem dX6_wishBy_97 : decode cX6_wishBy 97 = .ok (.irem, 1) := by decide +kernel
theorem dX6_wishBy_98 : decode cX6_wishBy 98 = .ok (.iconst 3, 1) := by decide +kernel
theorem dX6_wishBy_99 : decode cX6_wishBy 99 = .ok (.if_icmp .le 18, 3) := by decide +kernel
theorem dX6_wishBy_102 : decode cX6_wishBy 102 = .ok (.iconst 2, 1) := by decide +kernel
theorem dX6_wishBy_103 : decode cX6_wishBy 103 = .ok (.iload_n 3, 1) := by decide +kernel
theorem dX6_wishBy_104 : decode cX6_wishBy 104 = .ok (.iload 5, 2) := by decide +kernel
theorem dX6_wishBy_106 : decode cX6_wishBy 106 = .ok (.isub, 1) := by decide +kernel
theorem dX6_wishBy_107 : decode cX6_wishBy 107 = .ok (.iload 4, 2) := by decide +kernel
theorem dX6_wishBy_109 : decode cX6_wishBy 109 = .ok (.isub, 1) := by decide +kernel
theorem dX6_wishBy_110 : decode cX6_wishBy 110 = .ok (.invokestatic 166, 3) := by decide +kernel
theorem dX6_wishBy_113 : decode cX6_wishBy 113 = .ok (.imul, 1) := by decide +kernel
theorem dX6_wishBy_114 : decode cX6_wishBy 114 = .ok (.goto 4, 3) := by decide +kernel
theorem dX6_wishBy_117 : decode cX6_wishBy 117 = .ok (.iconst 0, 1) := by decide +kernel
theorem dX6_wishBy_118 : decode cX6_wishBy 118 = .ok (.ireturn, 1) := by decide +kernel
theorem dX6_wishBy_119 : decode cX6_wishBy 119 = .ok (.iload_n 3, 1) := by decide +kernel
theorem dX6_wishBy_120 : decode cX6_wishBy 120 = .ok (.iload 4, 2) := by decide +kernel
theorem dX6_wishBy_122 : decode cX6_wishBy 122 = .ok (.isub, 1) := by decide +kernel
theorem dX6_wishBy_123 : decode cX6_wishBy 123 = .ok (.invokestatic 166, 3) := by decide +kernel
theorem dX6_wishBy_126 : decode cX6_wishBy 126 = .ok (.ireturn, 1) := by decide +kernel
theorem dX6_wishBy_127 : decode cX6_wishBy 127 = .ok (.iload_n 3, 1) := by decide +kernel
theorem dX6_wishBy_128 : decode cX6_wishBy 128 = .ok (.iload 4, 2) := by decide +kernel
theorem dX6_wishBy_130 : decode cX6_wishBy 130 = .ok (.isub, 1) := by decide +kernel
theorem dX6_wishBy_131 : decode cX6_wishBy 131 = .ok (.invokestatic 166, 3) := by decide +kernel
theorem dX6_wishBy_134 : decode cX6_wishBy 134 = .ok (.iconst 2, 1) := by decide +kernel
theorem dX6_wishBy_135 : decode cX6_wishBy 135 = .ok (.aload_n 1, 1) := by decide +kernel
theorem dX6_wishBy_136 : decode cX6_wishBy 136 = .ok (.iload_n 2, 1) := by decide +kernel
theorem dX6_wishBy_137 : decode cX6_wishBy 137 = .ok (.iconst 5, 1) := by decide +kernel
theorem dX6_wishBy_138 : decode cX6_wishBy 138 = .ok (.invokestatic 159, 3) := by decide +kernel
theorem dX6_wishBy_141 : decode cX6_wishBy 141 = .ok (.iconst 1, 1) := by decide +kernel
theorem dX6_wishBy_142 : decode cX6_wishBy 142 = .ok (.isub, 1) := by decide +kernel
theorem dX6_wishBy_143 : decode cX6_wishBy 143 = .ok (.imul, 1) := by decide +kernel
theorem dX6_wishBy_144 : decode cX6_wishBy 144 = .ok (.iadd, 1) := by decide +kernel
theorem dX6_wishBy_145 : decode cX6_wishBy 145 = .ok (.ireturn, 1) := by decide +kernel
theorem dX6_layPulls_0 : decode cX6_layPulls 0 = .ok (.iconst 0, 1) := by decide +kernel
theorem dX6_layPulls_1 : decode cX6_layPulls 1 = .ok (.istore 5, 2) := by decide +kernel
theorem dX6_layPulls_3 : decode cX6_layPulls 3 = .ok (.iload 5, 2) := by decide +kernel
theorem dX6_layPulls_5 : decode cX6_layPulls 5 = .ok (.aload_n 1, 1) := by decide +kernel
theorem dX6_layPulls_6 : decode cX6_layPulls 6 = .ok (.iconst 0, 1) := by decide +kernel
theorem dX6_layPulls_7 : decode cX6_layPulls 7 = .ok (.iaload, 1) := by decide +kernel
theorem dX6_layPulls_8 : decode cX6_layPulls 8 = .ok (.if_icmp .ge 55, 3) := by decide +kernel
theorem dX6_layPulls_11 : decode cX6_layPulls 11 = .ok (.aload_n 0, 1) := by decide +kernel
theorem dX6_layPulls_12 : decode cX6_layPulls 12 = .ok (.getfield 37, 3) := by decide +kernel
theorem dX6_layPulls_15 : decode cX6_layPulls 15 = .ok (.iload 5, 2) := by decide +kernel
theorem dX6_layPulls_17 : decode cX6_layPulls 17 = .ok (.iload 5, 2) := by decide +kernel
theorem dX6_layPulls_19 : decode cX6_layPulls 19 = .ok (.aload_n 1, 1) := by decide +kernel
theorem dX6_layPulls_20 : decode cX6_layPulls 20 = .ok (.iconst 1, 1) := by decide +kernel
theorem dX6_layPulls_21 : decode cX6_layPulls 21 = .ok (.iaload, 1) := by decide +kernel
theorem dX6_layPulls_22 : decode cX6_layPulls 22 = .ok (.if_icmp .ne 9, 3) := by decide +kernel
theorem dX6_layPulls_25 : decode cX6_layPulls 25 = .ok (.aload_n 1, 1) := by decide +kernel
theorem dX6_layPulls_26 : decode cX6_layPulls 26 = .ok (.iconst 2, 1) := by decide +kernel
theorem dX6_layPulls_27 : decode cX6_layPulls 27 = .ok (.iaload, 1) := by decide +kernel
theorem dX6_layPulls_28 : decode cX6_layPulls 28 = .ok (.goto 15, 3) := by decide +kernel
theorem dX6_layPulls_31 : decode cX6_layPulls 31 = .ok (.bipush (-2), 2) := by decide +kernel
theorem dX6_layPulls_33 : decode cX6_layPulls 33 = .ok (.aload_n 0, 1) := by decide +kernel
theorem dX6_layPulls_34 : decode cX6_layPulls 34 = .ok (.aload_n 1, 1) := by decide +kernel
theorem dX6_layPulls_35 : decode cX6_layPulls 35 = .ok (.iconst 1, 1) := by decide +kernel
theorem dX6_layPulls_36 : decode cX6_layPulls 36 = .ok (.iaload, 1) := by decide +kernel
theorem dX6_layPulls_37 : decode cX6_layPulls 37 = .ok (.iload 5, 2) := by decide +kernel
theorem dX6_layPulls_39 : decode cX6_layPulls 39 = .ok (.invokevirtual 163, 3) := by decide +kernel
theorem dX6_layPulls_42 : decode cX6_layPulls 42 = .ok (.imul, 1) := by decide +kernel
theorem dX6_layPulls_43 : decode cX6_layPulls 43 = .ok (.iload 5, 2) := by decide +kernel
theorem dX6_layPulls_45 : decode cX6_layPulls 45 = .ok (.iload_n 3, 1) := by decide +kernel
theorem dX6_layPulls_46 : decode cX6_layPulls 46 = .ok (.if_icmp .ne 8, 3) := by decide +kernel
theorem dX6_layPulls_49 : decode cX6_layPulls 49 = .ok (.iload 4, 2) := by decide +kernel
theorem dX6_layPulls_51 : decode cX6_layPulls 51 = .ok (.goto 4, 3) := by decide +kernel
theorem dX6_layPulls_54 : decode cX6_layPulls 54 = .ok (.iconst 0, 1) := by decide +kernel
theorem dX6_layPulls_55 : decode cX6_layPulls 55 = .ok (.iadd, 1) := by decide +kernel
theorem dX6_layPulls_56 : decode cX6_layPulls 56 = .ok (.iastore, 1) := by decide +kernel
theorem dX6_layPulls_57 : decode cX6_layPulls 57 = .ok (.iinc 5 1, 3) := by decide +kernel
theorem dX6_layPulls_60 : decode cX6_layPulls 60 = .ok (.goto (-57), 3) := by decide +kernel
theorem dX6_layPulls_63 : decode cX6_layPulls 63 = .ok (.iconst 0, 1) := by decide +kernel
theorem dX6_layPulls_64 : decode cX6_layPulls 64 = .ok (.istore 5, 2) := by decide +kernel
theorem dX6_layPulls_66 : decode cX6_layPulls 66 = .ok (.iload 5, 2) := by decide +kernel
theorem dX6_layPulls_68 : decode cX6_layPulls 68 = .ok (.aload_n 1, 1) := by decide +kernel
theorem dX6_layPulls_69 : decode cX6_layPulls 69 = .ok (.iconst 5, 1) := by decide +kernel
theorem dX6_layPulls_70 : decode cX6_layPulls 70 = .ok (.iaload, 1) := by decide +kernel
theorem dX6_layPulls_71 : decode cX6_layPulls 71 = .ok (.if_icmp .ge 50, 3) := by decide +kernel
theorem dX6_layPulls_74 : decode cX6_layPulls 74 = .ok (.iload_n 2, 1) := by decide +kernel
theorem dX6_layPulls_75 : decode cX6_layPulls 75 = .ok (.iload 5, 2) := by decide +kernel
theorem dX6_layPulls_77 : decode cX6_layPulls 77 = .ok (.ishr, 1) := by decide +kernel
theorem dX6_layPulls_78 : decode cX6_layPulls 78 = .ok (.iconst 1, 1) := by decide +kernel
theorem dX6_layPulls_79 : decode cX6_layPulls 79 = .ok (.iand, 1) := by decide +kernel
theorem dX6_layPulls_80 : decode cX6_layPulls 80 = .ok (.iconst 1, 1) := by decide +kernel
theorem dX6_layPulls_81 : decode cX6_layPulls 81 = .ok (.if_icmp .ne 34, 3) := by decide +kernel
theorem dX6_layPulls_84 : decode cX6_layPulls 84 = .ok (.aload_n 1, 1) := by decide +kernel
theorem dX6_layPulls_85 : decode cX6_layPulls 85 = .ok (.iload 5, 2) := by decide +kernel
theorem dX6_layPulls_87 : decode cX6_layPulls 87 = .ok (.invokestatic 169, 3) := by decide +kernel
theorem dX6_layPulls_90 : decode cX6_layPulls 90 = .ok (.ifCond .eq 25, 3) := by decide +kernel
theorem dX6_layPulls_93 : decode cX6_layPulls 93 = .ok (.aload_n 0, 1) := by decide +kernel
theorem dX6_layPulls_94 : decode cX6_layPulls 94 = .ok (.getfield 37, 3) := by decide +kernel
theorem dX6_layPulls_97 : decode cX6_layPulls 97 = .ok (.aload_n 1, 1) := by decide +kernel
theorem dX6_layPulls_98 : decode cX6_layPulls 98 = .ok (.iload 5, 2) := by decide +kernel
theorem dX6_layPulls_100 : decode cX6_layPulls 100 = .ok (.iconst 2, 1) := by decide +kernel
theorem dX6_layPulls_101 : decode cX6_layPulls 101 = .ok (.invokestatic 159, 3) := by decide +kernel
theorem dX6_layPulls_104 : decode cX6_layPulls 104 = .ok (.dup2, 1) := by decide +kernel
theorem dX6_layPulls_105 : decode cX6_layPulls 105 = .ok (.iaload, 1) := by decide +kernel
theorem dX6_layPulls_106 : decode cX6_layPulls 106 = .ok (.aload_n 0, 1) := by decide +kernel
theorem dX6_layPulls_107 : decode cX6_layPulls 107 = .ok (.aload_n 1, 1) := by decide +kernel
theorem dX6_layPulls_108 : decode cX6_layPulls 108 = .ok (.iload 5, 2) := by decide +kernel
theorem dX6_layPulls_110 : decode cX6_layPulls 110 = .ok (.invokevirtual 173, 3) := by decide +kernel
theorem dX6_layPulls_113 : decode cX6_layPulls 113 = .ok (.iadd, 1) := by decide +kernel
theorem dX6_layPulls_114 : decode cX6_layPulls 114 = .ok (.iastore, 1) := by decide +kernel
theorem dX6_layPulls_115 : decode cX6_layPulls 115 = .ok (.iinc 5 1, 3) := by decide +kernel
theorem dX6_layPulls_118 : decode cX6_layPulls 118 = .ok (.goto (-52), 3) := by decide +kernel
theorem dX6_layPulls_121 : decode cX6_layPulls 121 = .ok (.return_, 1) := by decide +kernel
theorem dX6_goesTo_0 : decode cX6_goesTo 0 = .ok (.aload_n 1, 1) := by decide +kernel
theorem dX6_goesTo_1 : decode cX6_goesTo 1 = .ok (.iconst 1, 1) := by decide +kernel
theorem dX6_goesTo_2 : decode cX6_goesTo 2 = .ok (.iaload, 1) := by decide +kernel
theorem dX6_goesTo_3 : decode cX6_goesTo 3 = .ok (.istore_n 2, 1) := by decide +kernel
theorem dX6_goesTo_4 : decode cX6_goesTo 4 = .ok (.iconst 1, 1) := by decide +kernel
theorem dX6_goesTo_5 : decode cX6_goesTo 5 = .ok (.istore_n 3, 1) := by decide +kernel
theorem dX6_goesTo_6 : decode cX6_goesTo 6 = .ok (.iconst 0, 1) := by decide +kernel
theorem dX6_goesTo_7 : decode cX6_goesTo 7 = .ok (.istore 4, 2) := by decide +kernel
theorem dX6_goesTo_9 : decode cX6_goesTo 9 = .ok (.iload 4, 2) := by decide +kernel
theorem dX6_goesTo_11 : decode cX6_goesTo 11 = .ok (.aload_n 1, 1) := by decide +kernel
theorem dX6_goesTo_12 : decode cX6_goesTo 12 = .ok (.iconst 0, 1) := by decide +kernel
theorem dX6_goesTo_13 : decode cX6_goesTo 13 = .ok (.iaload, 1) := by decide +kernel
theorem dX6_goesTo_14 : decode cX6_goesTo 14 = .ok (.if_icmp .ge 58, 3) := by decide +kernel
theorem dX6_goesTo_17 : decode cX6_goesTo 17 = .ok (.aload_n 0, 1) := by decide +kernel
theorem dX6_goesTo_18 : decode cX6_goesTo 18 = .ok (.getfield 37, 3) := by decide +kernel
theorem dX6_goesTo_21 : decode cX6_goesTo 21 = .ok (.iload 4, 2) := by decide +kernel
theorem dX6_goesTo_23 : decode cX6_goesTo 23 = .ok (.iaload, 1) := by decide +kernel
theorem dX6_goesTo_24 : decode cX6_goesTo 24 = .ok (.aload_n 0, 1) := by decide +kernel
theorem dX6_goesTo_25 : decode cX6_goesTo 25 = .ok (.getfield 37, 3) := by decide +kernel
theorem dX6_goesTo_28 : decode cX6_goesTo 28 = .ok (.iload_n 2, 1) := by decide +kernel
theorem dX6_goesTo_29 : decode cX6_goesTo 29 = .ok (.iaload, 1) := by decide +kernel
theorem dX6_goesTo_30 : decode cX6_goesTo 30 = .ok (.if_icmp .le 11, 3) := by decide +kernel
theorem dX6_goesTo_33 : decode cX6_goesTo 33 = .ok (.iload 4, 2) := by decide +kernel
theorem dX6_goesTo_35 : decode cX6_goesTo 35 = .ok (.istore_n 2, 1) := by decide +kernel
theorem dX6_goesTo_36 : decode cX6_goesTo 36 = .ok (.iconst 1, 1) := by decide +kernel
theorem dX6_goesTo_37 : decode cX6_goesTo 37 = .ok (.istore_n 3, 1) := by decide +kernel
theorem dX6_goesTo_38 : decode cX6_goesTo 38 = .ok (.goto 28, 3) := by decide +kernel
theorem dX6_goesTo_41 : decode cX6_goesTo 41 = .ok (.iload 4, 2) := by decide +kernel
theorem dX6_goesTo_43 : decode cX6_goesTo 43 = .ok (.iload_n 2, 1) := by decide +kernel
theorem dX6_goesTo_44 : decode cX6_goesTo 44 = .ok (.if_icmp .eq 22, 3) := by decide +kernel
theorem dX6_goesTo_47 : decode cX6_goesTo 47 = .ok (.aload_n 0, 1) := by decide +kernel
theorem dX6_goesTo_48 : decode cX6_goesTo 48 = .ok (.getfield 37, 3) := by decide +kernel
theorem dX6_goesTo_51 : decode cX6_goesTo 51 = .ok (.iload 4, 2) := by decide +kernel
theorem dX6_goesTo_53 : decode cX6_goesTo 53 = .ok (.iaload, 1) := by decide +kernel
theorem dX6_goesTo_54 : decode cX6_goesTo 54 = .ok (.aload_n 0, 1) := by decide +kernel
theorem dX6_goesTo_55 : decode cX6_goesTo 55 = .ok (.getfield 37, 3) := by decide +kernel
theorem dX6_goesTo_58 : decode cX6_goesTo 58 = .ok (.iload_n 2, 1) := by decide +kernel
theorem dX6_goesTo_59 : decode cX6_goesTo 59 = .ok (.iaload, 1) := by decide +kernel
theorem dX6_goesTo_60 : decode cX6_goesTo 60 = .ok (.if_icmp .ne 6, 3) := by decide +kernel
theorem dX6_goesTo_63 : decode cX6_goesTo 63 = .ok (.iinc 3 1, 3) := by decide +kernel
theorem dX6_goesTo_66 : decode cX6_goesTo 66 = .ok (.iinc 4 1, 3) := by decide +kernel
theorem dX6_goesTo_69 : decode cX6_goesTo 69 = .ok (.goto (-60), 3) := by decide +kernel
theorem dX6_goesTo_72 : decode cX6_goesTo 72 = .ok (.iload_n 2, 1) := by decide +kernel
theorem dX6_goesTo_73 : decode cX6_goesTo 73 = .ok (.aload_n 1, 1) := by decide +kernel
theorem dX6_goesTo_74 : decode cX6_goesTo 74 = .ok (.iconst 1, 1) := by decide +kernel
theorem dX6_goesTo_75 : decode cX6_goesTo 75 = .ok (.iaload, 1) := by decide +kernel
theorem dX6_goesTo_76 : decode cX6_goesTo 76 = .ok (.if_icmp .eq 8, 3) := by decide +kernel
theorem dX6_goesTo_79 : decode cX6_goesTo 79 = .ok (.iload_n 3, 1) := by decide +kernel
theorem dX6_goesTo_80 : decode cX6_goesTo 80 = .ok (.iconst 1, 1) := by decide +kernel
theorem dX6_goesTo_81 : decode cX6_goesTo 81 = .ok (.if_icmp .ne 7, 3) := by decide +kernel
theorem dX6_goesTo_84 : decode cX6_goesTo 84 = .ok (.iload_n 2, 1) := by decide +kernel
theorem dX6_goesTo_85 : decode cX6_goesTo 85 = .ok (.goto 5, 3) := by decide +kernel
theorem dX6_goesTo_88 : decode cX6_goesTo 88 = .ok (.ldc 97, 2) := by decide +kernel
theorem dX6_goesTo_90 : decode cX6_goesTo 90 = .ok (.ireturn, 1) := by decide +kernel
theorem dX6_hour_0 : decode cX6_hour 0 = .ok (.aload_n 0, 1) := by decide +kernel
theorem dX6_hour_1 : decode cX6_hour 1 = .ok (.aload_n 1, 1) := by decide +kernel
theorem dX6_hour_2 : decode cX6_hour 2 = .ok (.bipush 63, 2) := by decide +kernel
theorem dX6_hour_4 : decode cX6_hour 4 = .ok (.iload_n 2, 1) := by decide +kernel
theorem dX6_hour_5 : decode cX6_hour 5 = .ok (.iload_n 3, 1) := by decide +kernel
theorem dX6_hour_6 : decode cX6_hour 6 = .ok (.invokevirtual 177, 3) := by decide +kernel
theorem dX6_hour_9 : decode cX6_hour 9 = .ok (.aload_n 0, 1) := by decide +kernel
theorem dX6_hour_10 : decode cX6_hour 10 = .ok (.aload_n 1, 1) := by decide +kernel
theorem dX6_hour_11 : decode cX6_hour 11 = .ok (.invokevirtual 181, 3) := by decide +kernel
theorem dX6_hour_14 : decode cX6_hour 14 = .ok (.istore 4, 2) := by decide +kernel
theorem dX6_hour_16 : decode cX6_hour 16 = .ok (.aload_n 1, 1) := by decide +kernel
theorem dX6_hour_17 : decode cX6_hour 17 = .ok (.bipush 8, 2) := by decide +kernel
theorem dX6_hour_19 : decode cX6_hour 19 = .ok (.dup2, 1) := by decide +kernel
theorem dX6_hour_20 : decode cX6_hour 20 = .ok (.iaload, 1) := by decide +kernel
theorem dX6_hour_21 : decode cX6_hour 21 = .ok (.iload 4, 2) := by decide +kernel
theorem dX6_hour_23 : decode cX6_hour 23 = .ok (.ldc 97, 2) := by decide +kernel
theorem dX6_hour_25 : decode cX6_hour 25 = .ok (.if_icmp .ne 7, 3) := by decide +kernel
theorem dX6_hour_28 : decode cX6_hour 28 = .ok (.iconst 1, 1) := by decide +kernel
theorem dX6_hour_29 : decode cX6_hour 29 = .ok (.goto 4, 3) := by decide +kernel
theorem dX6_hour_32 : decode cX6_hour 32 = .ok (.iconst 0, 1) := by decide +kernel
theorem dX6_hour_33 : decode cX6_hour 33 = .ok (.iadd, 1) := by decide +kernel
theorem dX6_hour_34 : decode cX6_hour 34 = .ok (.iastore, 1) := by decide +kernel
theorem dX6_hour_35 : decode cX6_hour 35 = .ok (.iload 4, 2) := by decide +kernel
theorem dX6_hour_37 : decode cX6_hour 37 = .ok (.ldc 97, 2) := by decide +kernel
theorem dX6_hour_39 : decode cX6_hour 39 = .ok (.if_icmp .eq 45, 3) := by decide +kernel
theorem dX6_hour_42 : decode cX6_hour 42 = .ok (.iload 4, 2) := by decide +kernel
theorem dX6_hour_44 : decode cX6_hour 44 = .ok (.aload_n 1, 1) := by decide +kernel
theorem dX6_hour_45 : decode cX6_hour 45 = .ok (.iconst 1, 1) := by decide +kernel
theorem dX6_hour_46 : decode cX6_hour 46 = .ok (.iaload, 1) := by decide +kernel
theorem dX6_hour_47 : decode cX6_hour 47 = .ok (.if_icmp .eq 37, 3) := by decide +kernel
theorem dX6_hour_50 : decode cX6_hour 50 = .ok (.aload_n 1, 1) := by decide +kernel
theorem dX6_hour_51 : decode cX6_hour 51 = .ok (.bipush 9, 2) := by decide +kernel
theorem dX6_hour_53 : decode cX6_hour 53 = .ok (.aload_n 1, 1) := by decide +kernel
theorem dX6_hour_54 : decode cX6_hour 54 = .ok (.bipush 9, 2) := by decide +kernel
theorem dX6_hour_56 : decode cX6_hour 56 = .ok (.iaload, 1) := by decide +kernel
theorem dX6_hour_57 : decode cX6_hour 57 = .ok (.iconst 1, 1) := by decide +kernel
theorem dX6_hour_58 : decode cX6_hour 58 = .ok (.aload_n 1, 1) := by decide +kernel
theorem dX6_hour_59 : decode cX6_hour 59 = .ok (.iconst 1, 1) := by decide +kernel
theorem dX6_hour_60 : decode cX6_hour 60 = .ok (.iaload, 1) := by decide +kernel
theorem dX6_hour_61 : decode cX6_hour 61 = .ok (.ishl, 1) := by decide +kernel
theorem dX6_hour_62 : decode cX6_hour 62 = .ok (.ior, 1) := by decide +kernel
theorem dX6_hour_63 : decode cX6_hour 63 = .ok (.iconst 1, 1) := by decide +kernel
theorem dX6_hour_64 : decode cX6_hour 64 = .ok (.iload 4, 2) := by decide +kernel
theorem dX6_hour_66 : decode cX6_hour 66 = .ok (.ishl, 1) := by decide +kernel
theorem dX6_hour_67 : decode cX6_hour 67 = .ok (.iconst (-1), 1) := by decide +kernel
theorem dX6_hour_68 : decode cX6_hour 68 = .ok (.ixor, 1) := by decide +kernel
theorem dX6_hour_69 : decode cX6_hour 69 = .ok (.iand, 1) := by decide +kernel
theorem dX6_hour_70 : decode cX6_hour 70 = .ok (.iastore, 1) := by decide +kernel
theorem dX6_hour_71 : decode cX6_hour 71 = .ok (.aload_n 1, 1) := by decide +kernel
theorem dX6_hour_72 : decode cX6_hour 72 = .ok (.iconst 1, 1) := by decide +kernel
theorem dX6_hour_73 : decode cX6_hour 73 = .ok (.iload 4, 2) := by decide +kernel
theorem dX6_hour_75 : decode cX6_hour 75 = .ok (.iastore, 1) := by decide +kernel
theorem dX6_hour_76 : decode cX6_hour 76 = .ok (.aload_n 1, 1) := by decide +kernel
theorem dX6_hour_77 : decode cX6_hour 77 = .ok (.bipush 7, 2) := by decide +kernel
theorem dX6_hour_79 : decode cX6_hour 79 = .ok (.dup2, 1) := by decide +kernel
theorem dX6_hour_80 : decode cX6_hour 80 = .ok (.iaload, 1) := by decide +kernel
theorem dX6_hour_81 : decode cX6_hour 81 = .ok (.iconst 1, 1) := by decide +kernel
theorem dX6_hour_82 : decode cX6_hour 82 = .ok (.iadd, 1) := by decide +kernel
theorem dX6_hour_83 : decode cX6_hour 83 = .ok (.iastore, 1) := by decide +kernel
theorem dX6_hour_84 : decode cX6_hour 84 = .ok (.iconst 0, 1) := by decide +kernel
theorem dX6_hour_85 : decode cX6_hour 85 = .ok (.istore 5, 2) := by decide +kernel
theorem dX6_hour_87 : decode cX6_hour 87 = .ok (.iload 5, 2) := by decide +kernel
theorem dX6_hour_89 : decode cX6_hour 89 = .ok (.aload_n 1, 1) := by decide +kernel
theorem dX6_hour_90 : decode cX6_hour 90 = .ok (.iconst 5, 1) := by decide +kernel
theorem dX6_hour_91 : decode cX6_hour 91 = .ok (.iaload, 1) := by decide +kernel
theorem dX6_hour_92 : decode cX6_hour 92 = .ok (.if_icmp .ge 92, 3) := by decide +kernel
theorem dX6_hour_95 : decode cX6_hour 95 = .ok (.aload_n 1, 1) := by decide +kernel
theorem dX6_hour_96 : decode cX6_hour 96 = .ok (.iload 5, 2) := by decide +kernel
theorem dX6_hour_98 : decode cX6_hour 98 = .ok (.bipush 6, 2) := by decide +kernel
theorem dX6_hour_100 : decode cX6_hour 100 = .ok (.invokestatic 159, 3) := by decide +kernel
theorem dX6_hour_103 : decode cX6_hour 103 = .ok (.istore 6, 2) := by decide +kernel
theorem dX6_hour_105 : decode cX6_hour 105 = .ok (.aload_n 1, 1) := by decide +kernel
theorem dX6_hour_106 : decode cX6_hour 106 = .ok (.iload 5, 2) := by decide +kernel
theorem dX6_hour_108 : decode cX6_hour 108 = .ok (.invokestatic 169, 3) := by decide +kernel
theorem dX6_hour_111 : decode cX6_hour 111 = .ok (.ifCond .eq 12, 3) := by decide +kernel
theorem dX6_hour_114 : decode cX6_hour 114 = .ok (.iload 6, 2) := by decide +kernel
theorem dX6_hour_116 : decode cX6_hour 116 = .ok (.aload_n 1, 1) := by decide +kernel
theorem dX6_hour_117 : decode cX6_hour 117 = .ok (.iconst 3, 1) := by decide +kernel
theorem dX6_hour_118 : decode cX6_hour 118 = .ok (.iaload, 1) := by decide +kernel
theorem dX6_hour_119 : decode cX6_hour 119 = .ok (.iadd, 1) := by decide +kernel
theorem dX6_hour_120 : decode cX6_hour 120 = .ok (.goto 7, 3) := by decide +kernel
theorem dX6_hour_123 : decode cX6_hour 123 = .ok (.iload 6, 2) := by decide +kernel
theorem dX6_hour_125 : decode cX6_hour 125 = .ok (.iconst 1, 1) := by decide +kernel
theorem dX6_hour_126 : decode cX6_hour 126 = .ok (.isub, 1) := by decide +kernel
theorem dX6_hour_127 : decode cX6_hour 127 = .ok (.istore 6, 2) := by decide +kernel
theorem dX6_hour_129 : decode cX6_hour 129 = .ok (.iload 6, 2) := by decide +kernel
theorem dX6_hour_131 : decode cX6_hour 131 = .ok (.bipush 20, 2) := by decide +kernel
theorem dX6_hour_133 : decode cX6_hour 133 = .ok (.if_icmp .le 8, 3) := by decide +kernel
theorem dX6_hour_136 : decode cX6_hour 136 = .ok (.bipush 20, 2) := by decide +kernel
theorem dX6_hour_138 : decode cX6_hour 138 = .ok (.goto 8, 3) := by decide +kernel
theorem dX6_hour_141 : decode cX6_hour 141 = .ok (.iload 6, 2) := by decide +kernel
theorem dX6_hour_143 : decode cX6_hour 143 = .ok (.invokestatic 166, 3) := by decide +kernel
theorem dX6_hour_146 : decode cX6_hour 146 = .ok (.istore 6, 2) := by decide +kernel
theorem dX6_hour_148 : decode cX6_hour 148 = .ok (.aload_n 1, 1) := by decide +kernel
theorem dX6_hour_149 : decode cX6_hour 149 = .ok (.bipush 16, 2) := by decide +kernel
theorem dX6_hour_151 : decode cX6_hour 151 = .ok (.bipush 8, 2) := by decide +kernel
theorem dX6_hour_153 : decode cX6_hour 153 = .ok (.iload 5, 2) := by decide +kernel
theorem dX6_hour_155 : decode cX6_hour 155 = .ok (.imul, 1) := by decide +kernel
theorem dX6_hour_156 : decode cX6_hour 156 = .ok (.iadd, 1) := by decide +kernel
theorem dX6_hour_157 : decode cX6_hour 157 = .ok (.bipush 6, 2) := by decide +kernel
theorem dX6_hour_159 : decode cX6_hour 159 = .ok (.iadd, 1) := by decide +kernel
theorem dX6_hour_160 : decode cX6_hour 160 = .ok (.aload_n 1, 1) := by decide +kernel
theorem dX6_hour_161 : decode cX6_hour 161 = .ok (.iload 5, 2) := by decide +kernel
theorem dX6_hour_163 : decode cX6_hour 163 = .ok (.iconst 0, 1) := by decide +kernel
theorem dX6_hour_164 : decode cX6_hour 164 = .ok (.invokestatic 159, 3) := by decide +kernel
theorem dX6_hour_167 : decode cX6_hour 167 = .ok (.iconst 2, 1) := by decide +kernel
theorem dX6_hour_168 : decode cX6_hour 168 = .ok (.if_icmp .ne 7, 3) := by decide +kernel
theorem dX6_hour_171 : decode cX6_hour 171 = .ok (.iconst 0, 1) := by decide +kernel
theorem dX6_hour_172 : decode cX6_hour 172 = .ok (.goto 5, 3) := by decide +kernel
theorem dX6_hour_175 : decode cX6_hour 175 = .ok (.iload 6, 2) := by decide +kernel
theorem dX6_hour_177 : decode cX6_hour 177 = .ok (.iastore, 1) := by decide +kernel
theorem dX6_hour_178 : decode cX6_hour 178 = .ok (.iinc 5 1, 3) := by decide +kernel
theorem dX6_hour_181 : decode cX6_hour 181 = .ok (.goto (-94), 3) := by decide +kernel
theorem dX6_hour_184 : decode cX6_hour 184 = .ok (.aload_n 1, 1) := by decide +kernel
theorem dX6_hour_185 : decode cX6_hour 185 = .ok (.bipush 6, 2) := by decide +kernel
theorem dX6_hour_187 : decode cX6_hour 187 = .ok (.dup2, 1) := by decide +kernel
theorem dX6_hour_188 : decode cX6_hour 188 = .ok (.iaload, 1) := by decide +kernel
theorem dX6_hour_189 : decode cX6_hour 189 = .ok (.iconst 1, 1) := by decide +kernel
theorem dX6_hour_190 : decode cX6_hour 190 = .ok (.iadd, 1) := by decide +kernel
theorem dX6_hour_191 : decode cX6_hour 191 = .ok (.iastore, 1) := by decide +kernel
theorem dX6_hour_192 : decode cX6_hour 192 = .ok (.return_, 1) := by decide +kernel
theorem dX6_hoursOf_0 : decode cX6_hoursOf 0 = .ok (.iconst 0, 1) := by decide +kernel
theorem dX6_hoursOf_1 : decode cX6_hoursOf 1 = .ok (.istore_n 3, 1) := by decide +kernel
theorem dX6_hoursOf_2 : decode cX6_hoursOf 2 = .ok (.iload_n 3, 1) := by decide +kernel
theorem dX6_hoursOf_3 : decode cX6_hoursOf 3 = .ok (.iload_n 2, 1) := by decide +kernel
theorem dX6_hoursOf_4 : decode cX6_hoursOf 4 = .ok (.if_icmp .ge 16, 3) := by decide +kernel
theorem dX6_hoursOf_7 : decode cX6_hoursOf 7 = .ok (.aload_n 0, 1) := by decide +kernel
theorem dX6_hoursOf_8 : decode cX6_hoursOf 8 = .ok (.aload_n 1, 1) := by decide +kernel
theorem dX6_hoursOf_9 : decode cX6_hoursOf 9 = .ok (.iconst 0, 1) := by decide +kernel
theorem dX6_hoursOf_10 : decode cX6_hoursOf 10 = .ok (.iconst 0, 1) := by decide +kernel
theorem dX6_hoursOf_11 : decode cX6_hoursOf 11 = .ok (.invokevirtual 185, 3) := by decide +kernel
theorem dX6_hoursOf_14 : decode cX6_hoursOf 14 = .ok (.iinc 3 1, 3) := by decide +kernel
theorem dX6_hoursOf_17 : decode cX6_hoursOf 17 = .ok (.goto (-15), 3) := by decide +kernel
theorem dX6_hoursOf_20 : decode cX6_hoursOf 20 = .ok (.return_, 1) := by decide +kernel
theorem dX6_layThen_0 : decode cX6_layThen 0 = .ok (.iconst 0, 1) := by decide +kernel
theorem dX6_layThen_1 : decode cX6_layThen 1 = .ok (.istore_n 1, 1) := by decide +kernel
theorem dX6_layThen_2 : decode cX6_layThen 2 = .ok (.iload_n 1, 1) := by decide +kernel
theorem dX6_layThen_3 : decode cX6_layThen 3 = .ok (.bipush 64, 2) := by decide +kernel
theorem dX6_layThen_5 : decode cX6_layThen 5 = .ok (.if_icmp .ge 21, 3) := by decide +kernel
theorem dX6_layThen_8 : decode cX6_layThen 8 = .ok (.aload_n 0, 1) := by decide +kernel
theorem dX6_layThen_9 : decode cX6_layThen 9 = .ok (.getfield 25, 3) := by decide +kernel
theorem dX6_layThen_12 : decode cX6_layThen 12 = .ok (.iload_n 1, 1) := by decide +kernel
theorem dX6_layThen_13 : decode cX6_layThen 13 = .ok (.aload_n 0, 1) := by decide +kernel
theorem dX6_layThen_14 : decode cX6_layThen 14 = .ok (.getfield 19, 3) := by decide +kernel
theorem dX6_layThen_17 : decode cX6_layThen 17 = .ok (.iload_n 1, 1) := by decide +kernel
theorem dX6_layThen_18 : decode cX6_layThen 18 = .ok (.iaload, 1) := by decide +kernel
theorem dX6_layThen_19 : decode cX6_layThen 19 = .ok (.iastore, 1) := by decide +kernel
theorem dX6_layThen_20 : decode cX6_layThen 20 = .ok (.iinc 1 1, 3) := by decide +kernel
theorem dX6_layThen_23 : decode cX6_layThen 23 = .ok (.goto (-21), 3) := by decide +kernel
theorem dX6_layThen_26 : decode cX6_layThen 26 = .ok (.return_, 1) := by decide +kernel
theorem dX6_atBehind_0 : decode cX6_atBehind 0 = .ok (.aload_n 0, 1) := by decide +kernel
theorem dX6_atBehind_1 : decode cX6_atBehind 1 = .ok (.aload_n 0, 1) := by decide +kernel
theorem dX6_atBehind_2 : decode cX6_atBehind 2 = .ok (.getfield 25, 3) := by decide +kernel
theorem dX6_atBehind_5 : decode cX6_atBehind 5 = .ok (.iload_n 1, 1) := by decide +kernel
theorem dX6_atBehind_6 : decode cX6_atBehind 6 = .ok (.invokevirtual 189, 3) := by decide +kernel
theorem dX6_atBehind_9 : decode cX6_atBehind 9 = .ok (.aload_n 0, 1) := by decide +kernel
theorem dX6_atBehind_10 : decode cX6_atBehind 10 = .ok (.getfield 25, 3) := by decide +kernel
theorem dX6_atBehind_13 : decode cX6_atBehind 13 = .ok (.iconst 1, 1) := by decide +kernel
theorem dX6_atBehind_14 : decode cX6_atBehind 14 = .ok (.iaload, 1) := by decide +kernel
theorem dX6_atBehind_15 : decode cX6_atBehind 15 = .ok (.ireturn, 1) := by decide +kernel
theorem dX6_keep_0 : decode cX6_keep 0 = .ok (.aload_n 0, 1) := by decide +kernel
theorem dX6_keep_1 : decode cX6_keep 1 = .ok (.getfield 153, 3) := by decide +kernel
theorem dX6_keep_4 : decode cX6_keep 4 = .ok (.bipush 24, 2) := by decide +kernel
theorem dX6_keep_6 : decode cX6_keep 6 = .ok (.if_icmp .ne 43, 3) := by decide +kernel
theorem dX6_keep_9 : decode cX6_keep 9 = .ok (.iconst 0, 1) := by decide +kernel
theorem dX6_keep_10 : decode cX6_keep 10 = .ok (.istore_n 1, 1) := by decide +kernel
theorem dX6_keep_11 : decode cX6_keep 11 = .ok (.iload_n 1, 1) := by decide +kernel
theorem dX6_keep_12 : decode cX6_keep 12 = .ok (.sipush 1472, 3) := by decide +kernel
theorem dX6_keep_15 : decode cX6_keep 15 = .ok (.if_icmp .ge 24, 3) := by decide +kernel
theorem dX6_keep_18 : decode cX6_keep 18 = .ok (.aload_n 0, 1) := by decide +kernel
theorem dX6_keep_19 : decode cX6_keep 19 = .ok (.getfield 28, 3) := by decide +kernel
theorem dX6_keep_22 : decode cX6_keep 22 = .ok (.iload_n 1, 1) := by decide +kernel
theorem dX6_keep_23 : decode cX6_keep 23 = .ok (.aload_n 0, 1) := by decide +kernel
theorem dX6_keep_24 : decode cX6_keep 24 = .ok (.getfield 28, 3) := by decide +kernel
theorem dX6_keep_27 : decode cX6_keep 27 = .ok (.iload_n 1, 1) := by decide +kernel
theorem dX6_keep_28 : decode cX6_keep 28 = .ok (.bipush 64, 2) := by decide +kernel
theorem dX6_keep_30 : decode cX6_keep 30 = .ok (.iadd, 1) := by decide +kernel
theorem dX6_keep_31 : decode cX6_keep 31 = .ok (.iaload, 1) := by decide +kernel
theorem dX6_keep_32 : decode cX6_keep 32 = .ok (.iastore, 1) := by decide +kernel
theorem dX6_keep_33 : decode cX6_keep 33 = .ok (.iinc 1 1, 3) := by decide +kernel
theorem dX6_keep_36 : decode cX6_keep 36 = .ok (.goto (-25), 3) := by decide +kernel
theorem dX6_keep_39 : decode cX6_keep 39 = .ok (.aload_n 0, 1) := by decide +kernel
theorem dX6_keep_40 : decode cX6_keep 40 = .ok (.dup, 1) := by decide +kernel
theorem dX6_keep_41 : decode cX6_keep 41 = .ok (.getfield 153, 3) := by decide +kernel
theorem dX6_keep_44 : decode cX6_keep 44 = .ok (.iconst 1, 1) := by decide +kernel
theorem dX6_keep_45 : decode cX6_keep 45 = .ok (.isub, 1) := by decide +kernel
theorem dX6_keep_46 : decode cX6_keep 46 = .ok (.putfield 153, 3) := by decide +kernel
theorem dX6_keep_49 : decode cX6_keep 49 = .ok (.iconst 0, 1) := by decide +kernel
theorem dX6_keep_50 : decode cX6_keep 50 = .ok (.istore_n 1, 1) := by decide +kernel
theorem dX6_keep_51 : decode cX6_keep 51 = .ok (.iload_n 1, 1) := by decide +kernel
theorem dX6_keep_52 : decode cX6_keep 52 = .ok (.bipush 64, 2) := by decide +kernel
theorem dX6_keep_54 : decode cX6_keep 54 = .ok (.if_icmp .ge 29, 3) := by decide +kernel
theorem dX6_keep_57 : decode cX6_keep 57 = .ok (.aload_n 0, 1) := by decide +kernel
theorem dX6_keep_58 : decode cX6_keep 58 = .ok (.getfield 28, 3) := by decide +kernel
theorem dX6_keep_61 : decode cX6_keep 61 = .ok (.bipush 64, 2) := by decide +kernel
theorem dX6_keep_63 : decode cX6_keep 63 = .ok (.aload_n 0, 1) := by decide +kernel
theorem dX6_keep_64 : decode cX6_keep 64 = .ok (.getfield 153, 3) := by decide +kernel
theorem dX6_keep_67 : decode cX6_keep 67 = .ok (.imul, 1) := by decide +kernel
theorem dX6_keep_68 : decode cX6_keep 68 = .ok (.iload_n 1, 1) := by decide +kernel
theorem dX6_keep_69 : decode cX6_keep 69 = .ok (.iadd, 1) := by decide +kernel
theorem dX6_keep_70 : decode cX6_keep 70 = .ok (.aload_n 0, 1) := by decide +kernel
theorem dX6_keep_71 : decode cX6_keep 71 = .ok (.getfield 19, 3) := by decide +kernel
theorem dX6_keep_74 : decode cX6_keep 74 = .ok (.iload_n 1, 1) := by decide +kernel
theorem dX6_keep_75 : decode cX6_keep 75 = .ok (.iaload, 1) := by decide +kernel
theorem dX6_keep_76 : decode cX6_keep 76 = .ok (.iastore, 1) := by decide +kernel
theorem dX6_keep_77 : decode cX6_keep 77 = .ok (.iinc 1 1, 3) := by decide +kernel
theorem dX6_keep_80 : decode cX6_keep 80 = .ok (.goto (-29), 3) := by decide +kernel
theorem dX6_keep_83 : decode cX6_keep 83 = .ok (.aload_n 0, 1) := by decide +kernel
theorem dX6_keep_84 : decode cX6_keep 84 = .ok (.dup, 1) := by decide +kernel
theorem dX6_keep_85 : decode cX6_keep 85 = .ok (.getfield 153, 3) := by decide +kernel
theorem dX6_keep_88 : decode cX6_keep 88 = .ok (.iconst 1, 1) := by decide +kernel
theorem dX6_keep_89 : decode cX6_keep 89 = .ok (.iadd, 1) := by decide +kernel
theorem dX6_keep_90 : decode cX6_keep 90 = .ok (.putfield 153, 3) := by decide +kernel
theorem dX6_keep_93 : decode cX6_keep 93 = .ok (.return_, 1) := by decide +kernel
theorem dX6_hours_0 : decode cX6_hours 0 = .ok (.aload_n 0, 1) := by decide +kernel
theorem dX6_hours_1 : decode cX6_hours 1 = .ok (.iconst 0, 1) := by decide +kernel
theorem dX6_hours_2 : decode cX6_hours 2 = .ok (.putfield 54, 3) := by decide +kernel
theorem dX6_hours_5 : decode cX6_hours 5 = .ok (.aload_n 0, 1) := by decide +kernel
theorem dX6_hours_6 : decode cX6_hours 6 = .ok (.invokevirtual 193, 3) := by decide +kernel
theorem dX6_hours_9 : decode cX6_hours 9 = .ok (.ifCond .ne 6, 3) := by decide +kernel
theorem dX6_hours_12 : decode cX6_hours 12 = .ok (.ldc 196, 2) := by decide +kernel
theorem dX6_hours_14 : decode cX6_hours 14 = .ok (.ireturn, 1) := by decide +kernel
theorem dX6_hours_15 : decode cX6_hours 15 = .ok (.iload_n 1, 1) := by decide +kernel
theorem dX6_hours_16 : decode cX6_hours 16 = .ok (.i2l, 1) := by decide +kernel
theorem dX6_hours_17 : decode cX6_hours 17 = .ok (.lconst 1, 1) := by decide +kernel
theorem dX6_hours_18 : decode cX6_hours 18 = .ok (.ldc2_w 197, 3) := by decide +kernel
theorem dX6_hours_21 : decode cX6_hours 21 = .ok (.invokestatic 64, 3) := by decide +kernel
theorem dX6_hours_24 : decode cX6_hours 24 = .ok (.ifCond .ne 6, 3) := by decide +kernel
theorem dX6_hours_27 : decode cX6_hours 27 = .ok (.ldc 74, 2) := by decide +kernel
theorem dX6_hours_29 : decode cX6_hours 29 = .ok (.ireturn, 1) := by decide +kernel
theorem dX6_hours_30 : decode cX6_hours 30 = .ok (.aload_n 0, 1) := by decide +kernel
theorem dX6_hours_31 : decode cX6_hours 31 = .ok (.getfield 19, 3) := by decide +kernel
theorem dX6_hours_34 : decode cX6_hours 34 = .ok (.bipush 6, 2) := by decide +kernel
theorem dX6_hours_36 : decode cX6_hours 36 = .ok (.iaload, 1) := by decide +kernel
theorem dX6_hours_37 : decode cX6_hours 37 = .ok (.iload_n 1, 1) := by decide +kernel
theorem dX6_hours_38 : decode cX6_hours 38 = .ok (.iadd, 1) := by decide +kernel
theorem dX6_hours_39 : decode cX6_hours 39 = .ok (.sipush 999, 3) := by decide +kernel
theorem dX6_hours_42 : decode cX6_hours 42 = .ok (.if_icmp .le 6, 3) := by decide +kernel
theorem dX6_hours_45 : decode cX6_hours 45 = .ok (.ldc 84, 2) := by decide +kernel
theorem dX6_hours_47 : decode cX6_hours 47 = .ok (.ireturn, 1) := by decide +kernel
theorem dX6_hours_48 : decode cX6_hours 48 = .ok (.iconst 0, 1) := by decide +kernel
theorem dX6_hours_49 : decode cX6_hours 49 = .ok (.istore_n 2, 1) := by decide +kernel
theorem dX6_hours_50 : decode cX6_hours 50 = .ok (.iload_n 2, 1) := by decide +kernel
theorem dX6_hours_51 : decode cX6_hours 51 = .ok (.iload_n 1, 1) := by decide +kernel
theorem dX6_hours_52 : decode cX6_hours 52 = .ok (.if_icmp .ge 23, 3) := by decide +kernel
theorem dX6_hours_55 : decode cX6_hours 55 = .ok (.aload_n 0, 1) := by decide +kernel
theorem dX6_hours_56 : decode cX6_hours 56 = .ok (.invokevirtual 199, 3) := by decide +kernel
theorem dX6_hours_59 : decode cX6_hours 59 = .ok (.aload_n 0, 1) := by decide +kernel
theorem dX6_hours_60 : decode cX6_hours 60 = .ok (.aload_n 0, 1) := by decide +kernel
theorem dX6_hours_61 : decode cX6_hours 61 = .ok (.getfield 19, 3) := by decide +kernel
theorem dX6_hours_64 : decode cX6_hours 64 = .ok (.iconst 0, 1) := by decide +kernel
theorem dX6_hours_65 : decode cX6_hours 65 = .ok (.iconst 0, 1) := by decide +kernel
theorem dX6_hours_66 : decode cX6_hours 66 = .ok (.invokevirtual 185, 3) := by decide +kernel
theorem dX6_hours_69 : decode cX6_hours 69 = .ok (.iinc 2 1, 3) := by decide +kernel
theorem dX6_hours_72 : decode cX6_hours 72 = .ok (.goto (-22), 3) := by decide +kernel
theorem dX6_hours_75 : decode cX6_hours 75 = .ok (.aload_n 0, 1) := by decide +kernel
theorem dX6_hours_76 : decode cX6_hours 76 = .ok (.getfield 19, 3) := by decide +kernel
theorem dX6_hours_79 : decode cX6_hours 79 = .ok (.iconst 1, 1) := by decide +kernel
theorem dX6_hours_80 : decode cX6_hours 80 = .ok (.iaload, 1) := by decide +kernel
theorem dX6_hours_81 : decode cX6_hours 81 = .ok (.ireturn, 1) := by decide +kernel
theorem dX6_wish_0 : decode cX6_wish 0 = .ok (.aload_n 0, 1) := by decide +kernel
theorem dX6_wish_1 : decode cX6_wish 1 = .ok (.iconst 0, 1) := by decide +kernel
theorem dX6_wish_2 : decode cX6_wish 2 = .ok (.putfield 54, 3) := by decide +kernel
theorem dX6_wish_5 : decode cX6_wish 5 = .ok (.aload_n 0, 1) := by decide +kernel
theorem dX6_wish_6 : decode cX6_wish 6 = .ok (.iload_n 1, 1) := by decide +kernel
theorem dX6_wish_7 : decode cX6_wish 7 = .ok (.invokevirtual 202, 3) := by decide +kernel
theorem dX6_wish_10 : decode cX6_wish 10 = .ok (.ifCond .eq 23, 3) := by decide +kernel
theorem dX6_wish_13 : decode cX6_wish 13 = .ok (.aload_n 0, 1) := by decide +kernel
theorem dX6_wish_14 : decode cX6_wish 14 = .ok (.iload_n 2, 1) := by decide +kernel
theorem dX6_wish_15 : decode cX6_wish 15 = .ok (.invokevirtual 205, 3) := by decide +kernel
theorem dX6_wish_18 : decode cX6_wish 18 = .ok (.ifCond .eq 15, 3) := by decide +kernel
theorem dX6_wish_21 : decode cX6_wish 21 = .ok (.iload_n 3, 1) := by decide +kernel
theorem dX6_wish_22 : decode cX6_wish 22 = .ok (.i2l, 1) := by decide +kernel
theorem dX6_wish_23 : decode cX6_wish 23 = .ok (.lconst 0, 1) := by decide +kernel
theorem dX6_wish_24 : decode cX6_wish 24 = .ok (.ldc2_w 208, 3) := by decide +kernel
theorem dX6_wish_27 : decode cX6_wish 27 = .ok (.invokestatic 64, 3) := by decide +kernel
theorem dX6_wish_30 : decode cX6_wish 30 = .ok (.ifCond .ne 6, 3) := by decide +kernel
theorem dX6_wish_33 : decode cX6_wish 33 = .ok (.ldc 74, 2) := by decide +kernel
theorem dX6_wish_35 : decode cX6_wish 35 = .ok (.ireturn, 1) := by decide +kernel
theorem dX6_wish_36 : decode cX6_wish 36 = .ok (.aload_n 0, 1) := by decide +kernel
theorem dX6_wish_37 : decode cX6_wish 37 = .ok (.invokevirtual 199, 3) := by decide +kernel
theorem dX6_wish_40 : decode cX6_wish 40 = .ok (.bipush 100, 2) := by decide +kernel
theorem dX6_wish_42 : decode cX6_wish 42 = .ok (.aload_n 0, 1) := by decide +kernel
theorem dX6_wish_43 : decode cX6_wish 43 = .ok (.getfield 19, 3) := by decide +kernel
theorem dX6_wish_46 : decode cX6_wish 46 = .ok (.iload_n 1, 1) := by decide +kernel
theorem dX6_wish_47 : decode cX6_wish 47 = .ok (.iconst 2, 1) := by decide +kernel
theorem dX6_wish_48 : decode cX6_wish 48 = .ok (.invokestatic 159, 3) := by decide +kernel
theorem dX6_wish_51 : decode cX6_wish 51 = .ok (.imul, 1) := by decide +kernel
theorem dX6_wish_52 : decode cX6_wish 52 = .ok (.aload_n 0, 1) := by decide +kernel
theorem dX6_wish_53 : decode cX6_wish 53 = .ok (.getfield 19, 3) := by decide +kernel
theorem dX6_wish_56 : decode cX6_wish 56 = .ok (.iload_n 1, 1) := by decide +kernel
theorem dX6_wish_57 : decode cX6_wish 57 = .ok (.iconst 3, 1) := by decide +kernel
theorem dX6_wish_58 : decode cX6_wish 58 = .ok (.invokestatic 159, 3) := by decide +kernel
theorem dX6_wish_61 : decode cX6_wish 61 = .ok (.iadd, 1) := by decide +kernel
theorem dX6_wish_62 : decode cX6_wish 62 = .ok (.istore 4, 2) := by decide +kernel
theorem dX6_wish_64 : decode cX6_wish 64 = .ok (.aload_n 0, 1) := by decide +kernel
theorem dX6_wish_65 : decode cX6_wish 65 = .ok (.getfield 19, 3) := by decide +kernel
theorem dX6_wish_68 : decode cX6_wish 68 = .ok (.bipush 16, 2) := by decide +kernel
theorem dX6_wish_70 : decode cX6_wish 70 = .ok (.bipush 8, 2) := by decide +kernel
theorem dX6_wish_72 : decode cX6_wish 72 = .ok (.iload_n 1, 1) := by decide +kernel
theorem dX6_wish_73 : decode cX6_wish 73 = .ok (.imul, 1) := by decide +kernel
theorem dX6_wish_74 : decode cX6_wish 74 = .ok (.iadd, 1) := by decide +kernel
theorem dX6_wish_75 : decode cX6_wish 75 = .ok (.iconst 2, 1) := by decide +kernel
theorem dX6_wish_76 : decode cX6_wish 76 = .ok (.iadd, 1) := by decide +kernel
theorem dX6_wish_77 : decode cX6_wish 77 = .ok (.iload_n 2, 1) := by decide +kernel
theorem dX6_wish_78 : decode cX6_wish 78 = .ok (.iastore, 1) := by decide +kernel
theorem dX6_wish_79 : decode cX6_wish 79 = .ok (.aload_n 0, 1) := by decide +kernel
theorem dX6_wish_80 : decode cX6_wish 80 = .ok (.getfield 19, 3) := by decide +kernel
theorem dX6_wish_83 : decode cX6_wish 83 = .ok (.bipush 16, 2) := by decide +kernel
theorem dX6_wish_85 : decode cX6_wish 85 = .ok (.bipush 8, 2) := by decide +kernel
theorem dX6_wish_87 : decode cX6_wish 87 = .ok (.iload_n 1, 1) := by decide +kernel
theorem dX6_wish_88 : decode cX6_wish 88 = .ok (.imul, 1) := by decide +kernel
theorem dX6_wish_89 : decode cX6_wish 89 = .ok (.iadd, 1) := by decide +kernel
theorem dX6_wish_90 : decode cX6_wish 90 = .ok (.iconst 3, 1) := by decide +kernel
theorem dX6_wish_91 : decode cX6_wish 91 = .ok (.iadd, 1) := by decide +kernel
theorem dX6_wish_92 : decode cX6_wish 92 = .ok (.iload_n 3, 1) := by decide +kernel
theorem dX6_wish_93 : decode cX6_wish 93 = .ok (.iastore, 1) := by decide +kernel
theorem dX6_wish_94 : decode cX6_wish 94 = .ok (.iload 4, 2) := by decide +kernel
theorem dX6_wish_96 : decode cX6_wish 96 = .ok (.ireturn, 1) := by decide +kernel
theorem dX6_rest_0 : decode cX6_rest 0 = .ok (.aload_n 0, 1) := by decide +kernel
theorem dX6_rest_1 : decode cX6_rest 1 = .ok (.iconst 0, 1) := by decide +kernel
theorem dX6_rest_2 : decode cX6_rest 2 = .ok (.putfield 54, 3) := by decide +kernel
theorem dX6_rest_5 : decode cX6_rest 5 = .ok (.aload_n 0, 1) := by decide +kernel
theorem dX6_rest_6 : decode cX6_rest 6 = .ok (.iload_n 1, 1) := by decide +kernel
theorem dX6_rest_7 : decode cX6_rest 7 = .ok (.invokevirtual 202, 3) := by decide +kernel
theorem dX6_rest_10 : decode cX6_rest 10 = .ok (.ifCond .eq 13, 3) := by decide +kernel
theorem dX6_rest_13 : decode cX6_rest 13 = .ok (.iload_n 2, 1) := by decide +kernel
theorem dX6_rest_14 : decode cX6_rest 14 = .ok (.i2l, 1) := by decide +kernel
theorem dX6_rest_15 : decode cX6_rest 15 = .ok (.lconst 0, 1) := by decide +kernel
theorem dX6_rest_16 : decode cX6_rest 16 = .ok (.lconst 1, 1) := by decide +kernel
theorem dX6_rest_17 : decode cX6_rest 17 = .ok (.invokestatic 64, 3) := by decide +kernel
theorem dX6_rest_20 : decode cX6_rest 20 = .ok (.ifCond .ne 6, 3) := by decide +kernel
theorem dX6_rest_23 : decode cX6_rest 23 = .ok (.ldc 74, 2) := by decide +kernel
theorem dX6_rest_25 : decode cX6_rest 25 = .ok (.ireturn, 1) := by decide +kernel
theorem dX6_rest_26 : decode cX6_rest 26 = .ok (.aload_n 0, 1) := by decide +kernel
theorem dX6_rest_27 : decode cX6_rest 27 = .ok (.getfield 19, 3) := by decide +kernel
theorem dX6_rest_30 : decode cX6_rest 30 = .ok (.iload_n 1, 1) := by decide +kernel
theorem dX6_rest_31 : decode cX6_rest 31 = .ok (.bipush 7, 2) := by decide +kernel
theorem dX6_rest_33 : decode cX6_rest 33 = .ok (.invokestatic 159, 3) := by decide +kernel
theorem dX6_rest_36 : decode cX6_rest 36 = .ok (.iload_n 2, 1) := by decide +kernel
theorem dX6_rest_37 : decode cX6_rest 37 = .ok (.if_icmp .ne 6, 3) := by decide +kernel
theorem dX6_rest_40 : decode cX6_rest 40 = .ok (.ldc 196, 2) := by decide +kernel
theorem dX6_rest_42 : decode cX6_rest 42 = .ok (.ireturn, 1) := by decide +kernel
theorem dX6_rest_43 : decode cX6_rest 43 = .ok (.aload_n 0, 1) := by decide +kernel
theorem dX6_rest_44 : decode cX6_rest 44 = .ok (.invokevirtual 199, 3) := by decide +kernel
theorem dX6_rest_47 : decode cX6_rest 47 = .ok (.aload_n 0, 1) := by decide +kernel
theorem dX6_rest_48 : decode cX6_rest 48 = .ok (.getfield 19, 3) := by decide +kernel
theorem dX6_rest_51 : decode cX6_rest 51 = .ok (.bipush 16, 2) := by decide +kernel
theorem dX6_rest_53 : decode cX6_rest 53 = .ok (.bipush 8, 2) := by decide +kernel
theorem dX6_rest_55 : decode cX6_rest 55 = .ok (.iload_n 1, 1) := by decide +kernel
