theorem dX6_rest_56 : decode cX6_rest 56 = .ok (.imul, 1) := by decide +kernel
theorem dX6_rest_57 : decode cX6_rest 57 = .ok (.iadd, 1) := by decide +kernel
theorem dX6_rest_58 : decode cX6_rest 58 = .ok (.bipush 7, 2) := by decide +kernel
theorem dX6_rest_60 : decode cX6_rest 60 = .ok (.iadd, 1) := by decide +kernel
theorem dX6_rest_61 : decode cX6_rest 61 = .ok (.iload_n 2, 1) := by decide +kernel
theorem dX6_rest_62 : decode cX6_rest 62 = .ok (.iastore, 1) := by decide +kernel
theorem dX6_rest_63 : decode cX6_rest 63 = .ok (.iconst 0, 1) := by decide +kernel
theorem dX6_rest_64 : decode cX6_rest 64 = .ok (.istore_n 3, 1) := by decide +kernel
theorem dX6_rest_65 : decode cX6_rest 65 = .ok (.iconst 0, 1) := by decide +kernel
theorem dX6_rest_66 : decode cX6_rest 66 = .ok (.istore 4, 2) := by decide +kernel
theorem dX6_rest_68 : decode cX6_rest 68 = .ok (.iload 4, 2) := by decide +kernel
theorem dX6_rest_70 : decode cX6_rest 70 = .ok (.aload_n 0, 1) := by decide +kernel
theorem dX6_rest_71 : decode cX6_rest 71 = .ok (.getfield 19, 3) := by decide +kernel
theorem dX6_rest_74 : decode cX6_rest 74 = .ok (.iconst 5, 1) := by decide +kernel
theorem dX6_rest_75 : decode cX6_rest 75 = .ok (.iaload, 1) := by decide +kernel
theorem dX6_rest_76 : decode cX6_rest 76 = .ok (.if_icmp .ge 23, 3) := by decide +kernel
theorem dX6_rest_79 : decode cX6_rest 79 = .ok (.iload_n 3, 1) := by decide +kernel
theorem dX6_rest_80 : decode cX6_rest 80 = .ok (.aload_n 0, 1) := by decide +kernel
theorem dX6_rest_81 : decode cX6_rest 81 = .ok (.getfield 19, 3) := by decide +kernel
theorem dX6_rest_84 : decode cX6_rest 84 = .ok (.iload 4, 2) := by decide +kernel
theorem dX6_rest_86 : decode cX6_rest 86 = .ok (.bipush 7, 2) := by decide +kernel
theorem dX6_rest_88 : decode cX6_rest 88 = .ok (.invokestatic 159, 3) := by decide +kernel
theorem dX6_rest_91 : decode cX6_rest 91 = .ok (.iadd, 1) := by decide +kernel
theorem dX6_rest_92 : decode cX6_rest 92 = .ok (.istore_n 3, 1) := by decide +kernel
theorem dX6_rest_93 : decode cX6_rest 93 = .ok (.iinc 4 1, 3) := by decide +kernel
theorem dX6_rest_96 : decode cX6_rest 96 = .ok (.goto (-28), 3) := by decide +kernel
theorem dX6_rest_99 : decode cX6_rest 99 = .ok (.iload_n 3, 1) := by decide +kernel
theorem dX6_rest_100 : decode cX6_rest 100 = .ok (.ireturn, 1) := by decide +kernel
theorem dX6_undo_0 : decode cX6_undo 0 = .ok (.aload_n 0, 1) := by decide +kernel
theorem dX6_undo_1 : decode cX6_undo 1 = .ok (.iconst 0, 1) := by decide +kernel
theorem dX6_undo_2 : decode cX6_undo 2 = .ok (.putfield 54, 3) := by decide +kernel
theorem dX6_undo_5 : decode cX6_undo 5 = .ok (.aload_n 0, 1) := by decide +kernel
theorem dX6_undo_6 : decode cX6_undo 6 = .ok (.getfield 153, 3) := by decide +kernel
theorem dX6_undo_9 : decode cX6_undo 9 = .ok (.ifCond .ne 6, 3) := by decide +kernel
theorem dX6_undo_12 : decode cX6_undo 12 = .ok (.ldc 196, 2) := by decide +kernel
theorem dX6_undo_14 : decode cX6_undo 14 = .ok (.ireturn, 1) := by decide +kernel
theorem dX6_undo_15 : decode cX6_undo 15 = .ok (.aload_n 0, 1) := by decide +kernel
theorem dX6_undo_16 : decode cX6_undo 16 = .ok (.dup, 1) := by decide +kernel
theorem dX6_undo_17 : decode cX6_undo 17 = .ok (.getfield 153, 3) := by decide +kernel
theorem dX6_undo_20 : decode cX6_undo 20 = .ok (.iconst 1, 1) := by decide +kernel
theorem dX6_undo_21 : decode cX6_undo 21 = .ok (.isub, 1) := by decide +kernel
theorem dX6_undo_22 : decode cX6_undo 22 = .ok (.putfield 153, 3) := by decide +kernel
theorem dX6_undo_25 : decode cX6_undo 25 = .ok (.iconst 0, 1) := by decide +kernel
theorem dX6_undo_26 : decode cX6_undo 26 = .ok (.istore_n 1, 1) := by decide +kernel
theorem dX6_undo_27 : decode cX6_undo 27 = .ok (.iload_n 1, 1) := by decide +kernel
theorem dX6_undo_28 : decode cX6_undo 28 = .ok (.bipush 64, 2) := by decide +kernel
theorem dX6_undo_30 : decode cX6_undo 30 = .ok (.if_icmp .ge 29, 3) := by decide +kernel
theorem dX6_undo_33 : decode cX6_undo 33 = .ok (.aload_n 0, 1) := by decide +kernel
theorem dX6_undo_34 : decode cX6_undo 34 = .ok (.getfield 19, 3) := by decide +kernel
theorem dX6_undo_37 : decode cX6_undo 37 = .ok (.iload_n 1, 1) := by decide +kernel
theorem dX6_undo_38 : decode cX6_undo 38 = .ok (.aload_n 0, 1) := by decide +kernel
theorem dX6_undo_39 : decode cX6_undo 39 = .ok (.getfield 28, 3) := by decide +kernel
theorem dX6_undo_42 : decode cX6_undo 42 = .ok (.bipush 64, 2) := by decide +kernel
theorem dX6_undo_44 : decode cX6_undo 44 = .ok (.aload_n 0, 1) := by decide +kernel
theorem dX6_undo_45 : decode cX6_undo 45 = .ok (.getfield 153, 3) := by decide +kernel
theorem dX6_undo_48 : decode cX6_undo 48 = .ok (.imul, 1) := by decide +kernel
theorem dX6_undo_49 : decode cX6_undo 49 = .ok (.iload_n 1, 1) := by decide +kernel
theorem dX6_undo_50 : decode cX6_undo 50 = .ok (.iadd, 1) := by decide +kernel
theorem dX6_undo_51 : decode cX6_undo 51 = .ok (.iaload, 1) := by decide +kernel
theorem dX6_undo_52 : decode cX6_undo 52 = .ok (.iastore, 1) := by decide +kernel
theorem dX6_undo_53 : decode cX6_undo 53 = .ok (.iinc 1 1, 3) := by decide +kernel
theorem dX6_undo_56 : decode cX6_undo 56 = .ok (.goto (-29), 3) := by decide +kernel
theorem dX6_undo_59 : decode cX6_undo 59 = .ok (.aload_n 0, 1) := by decide +kernel
theorem dX6_undo_60 : decode cX6_undo 60 = .ok (.getfield 153, 3) := by decide +kernel
theorem dX6_undo_63 : decode cX6_undo 63 = .ok (.ireturn, 1) := by decide +kernel
theorem dX6_wisher_0 : decode cX6_wisher 0 = .ok (.aload_n 0, 1) := by decide +kernel
theorem dX6_wisher_1 : decode cX6_wisher 1 = .ok (.iconst 0, 1) := by decide +kernel
theorem dX6_wisher_2 : decode cX6_wisher 2 = .ok (.putfield 54, 3) := by decide +kernel
theorem dX6_wisher_5 : decode cX6_wisher 5 = .ok (.aload_n 0, 1) := by decide +kernel
theorem dX6_wisher_6 : decode cX6_wisher 6 = .ok (.iload_n 1, 1) := by decide +kernel
theorem dX6_wisher_7 : decode cX6_wisher 7 = .ok (.invokevirtual 202, 3) := by decide +kernel
theorem dX6_wisher_10 : decode cX6_wisher 10 = .ok (.ifCond .ne 6, 3) := by decide +kernel
theorem dX6_wisher_13 : decode cX6_wisher 13 = .ok (.ldc 74, 2) := by decide +kernel
theorem dX6_wisher_15 : decode cX6_wisher 15 = .ok (.ireturn, 1) := by decide +kernel
theorem dX6_wisher_16 : decode cX6_wisher 16 = .ok (.iload_n 2, 1) := by decide +kernel
theorem dX6_wisher_17 : decode cX6_wisher 17 = .ok (.tableswitch 116 0 5 #[39, 49, 59, 69, 80, 91], 39) := by decide +kernel
theorem dX6_wisher_56 : decode cX6_wisher 56 = .ok (.aload_n 0, 1) := by decide +kernel
theorem dX6_wisher_57 : decode cX6_wisher 57 = .ok (.getfield 19, 3) := by decide +kernel
theorem dX6_wisher_60 : decode cX6_wisher 60 = .ok (.iload_n 1, 1) := by decide +kernel
theorem dX6_wisher_61 : decode cX6_wisher 61 = .ok (.iconst 1, 1) := by decide +kernel
theorem dX6_wisher_62 : decode cX6_wisher 62 = .ok (.invokestatic 159, 3) := by decide +kernel
theorem dX6_wisher_65 : decode cX6_wisher 65 = .ok (.ireturn, 1) := by decide +kernel
theorem dX6_wisher_66 : decode cX6_wisher 66 = .ok (.aload_n 0, 1) := by decide +kernel
theorem dX6_wisher_67 : decode cX6_wisher 67 = .ok (.getfield 19, 3) := by decide +kernel
theorem dX6_wisher_70 : decode cX6_wisher 70 = .ok (.iload_n 1, 1) := by decide +kernel
theorem dX6_wisher_71 : decode cX6_wisher 71 = .ok (.iconst 2, 1) := by decide +kernel
theorem dX6_wisher_72 : decode cX6_wisher 72 = .ok (.invokestatic 159, 3) := by decide +kernel
theorem dX6_wisher_75 : decode cX6_wisher 75 = .ok (.ireturn, 1) := by decide +kernel
theorem dX6_wisher_76 : decode cX6_wisher 76 = .ok (.aload_n 0, 1) := by decide +kernel
theorem dX6_wisher_77 : decode cX6_wisher 77 = .ok (.getfield 19, 3) := by decide +kernel
theorem dX6_wisher_80 : decode cX6_wisher 80 = .ok (.iload_n 1, 1) := by decide +kernel
theorem dX6_wisher_81 : decode cX6_wisher 81 = .ok (.iconst 3, 1) := by decide +kernel
theorem dX6_wisher_82 : decode cX6_wisher 82 = .ok (.invokestatic 159, 3) := by decide +kernel
theorem dX6_wisher_85 : decode cX6_wisher 85 = .ok (.ireturn, 1) := by decide +kernel
theorem dX6_wisher_86 : decode cX6_wisher 86 = .ok (.aload_n 0, 1) := by decide +kernel
theorem dX6_wisher_87 : decode cX6_wisher 87 = .ok (.getfield 19, 3) := by decide +kernel
theorem dX6_wisher_90 : decode cX6_wisher 90 = .ok (.iload_n 1, 1) := by decide +kernel
theorem dX6_wisher_91 : decode cX6_wisher 91 = .ok (.bipush 6, 2) := by decide +kernel
theorem dX6_wisher_93 : decode cX6_wisher 93 = .ok (.invokestatic 159, 3) := by decide +kernel
theorem dX6_wisher_96 : decode cX6_wisher 96 = .ok (.ireturn, 1) := by decide +kernel
theorem dX6_wisher_97 : decode cX6_wisher 97 = .ok (.aload_n 0, 1) := by decide +kernel
theorem dX6_wisher_98 : decode cX6_wisher 98 = .ok (.getfield 19, 3) := by decide +kernel
theorem dX6_wisher_101 : decode cX6_wisher 101 = .ok (.iload_n 1, 1) := by decide +kernel
theorem dX6_wisher_102 : decode cX6_wisher 102 = .ok (.bipush 7, 2) := by decide +kernel
theorem dX6_wisher_104 : decode cX6_wisher 104 = .ok (.invokestatic 159, 3) := by decide +kernel
theorem dX6_wisher_107 : decode cX6_wisher 107 = .ok (.ireturn, 1) := by decide +kernel
theorem dX6_wisher_108 : decode cX6_wisher 108 = .ok (.aload_n 0, 1) := by decide +kernel
theorem dX6_wisher_109 : decode cX6_wisher 109 = .ok (.getfield 19, 3) := by decide +kernel
theorem dX6_wisher_112 : decode cX6_wisher 112 = .ok (.iload_n 1, 1) := by decide +kernel
theorem dX6_wisher_113 : decode cX6_wisher 113 = .ok (.invokestatic 169, 3) := by decide +kernel
theorem dX6_wisher_116 : decode cX6_wisher 116 = .ok (.ifCond .eq 15, 3) := by decide +kernel
theorem dX6_wisher_119 : decode cX6_wisher 119 = .ok (.aload_n 0, 1) := by decide +kernel
theorem dX6_wisher_120 : decode cX6_wisher 120 = .ok (.aload_n 0, 1) := by decide +kernel
theorem dX6_wisher_121 : decode cX6_wisher 121 = .ok (.getfield 19, 3) := by decide +kernel
theorem dX6_wisher_124 : decode cX6_wisher 124 = .ok (.iload_n 1, 1) := by decide +kernel
theorem dX6_wisher_125 : decode cX6_wisher 125 = .ok (.invokevirtual 173, 3) := by decide +kernel
theorem dX6_wisher_128 : decode cX6_wisher 128 = .ok (.goto 4, 3) := by decide +kernel
theorem dX6_wisher_131 : decode cX6_wisher 131 = .ok (.iconst 0, 1) := by decide +kernel
theorem dX6_wisher_132 : decode cX6_wisher 132 = .ok (.ireturn, 1) := by decide +kernel
theorem dX6_wisher_133 : decode cX6_wisher 133 = .ok (.ldc 74, 2) := by decide +kernel
theorem dX6_wisher_135 : decode cX6_wisher 135 = .ok (.ireturn, 1) := by decide +kernel
theorem dX6_place_0 : decode cX6_place 0 = .ok (.aload_n 0, 1) := by decide +kernel
theorem dX6_place_1 : decode cX6_place 1 = .ok (.iconst 0, 1) := by decide +kernel
theorem dX6_place_2 : decode cX6_place 2 = .ok (.putfield 54, 3) := by decide +kernel
theorem dX6_place_5 : decode cX6_place 5 = .ok (.aload_n 0, 1) := by decide +kernel
theorem dX6_place_6 : decode cX6_place 6 = .ok (.invokevirtual 193, 3) := by decide +kernel
theorem dX6_place_9 : decode cX6_place 9 = .ok (.ifCond .ne 6, 3) := by decide +kernel
theorem dX6_place_12 : decode cX6_place 12 = .ok (.ldc 196, 2) := by decide +kernel
theorem dX6_place_14 : decode cX6_place 14 = .ok (.ireturn, 1) := by decide +kernel
theorem dX6_place_15 : decode cX6_place 15 = .ok (.aload_n 0, 1) := by decide +kernel
theorem dX6_place_16 : decode cX6_place 16 = .ok (.iload_n 1, 1) := by decide +kernel
theorem dX6_place_17 : decode cX6_place 17 = .ok (.invokevirtual 205, 3) := by decide +kernel
theorem dX6_place_20 : decode cX6_place 20 = .ok (.ifCond .eq 15, 3) := by decide +kernel
theorem dX6_place_23 : decode cX6_place 23 = .ok (.iload_n 2, 1) := by decide +kernel
theorem dX6_place_24 : decode cX6_place 24 = .ok (.i2l, 1) := by decide +kernel
theorem dX6_place_25 : decode cX6_place 25 = .ok (.lconst 0, 1) := by decide +kernel
theorem dX6_place_26 : decode cX6_place 26 = .ok (.ldc2_w 72, 3) := by decide +kernel
theorem dX6_place_29 : decode cX6_place 29 = .ok (.invokestatic 64, 3) := by decide +kernel
theorem dX6_place_32 : decode cX6_place 32 = .ok (.ifCond .ne 6, 3) := by decide +kernel
theorem dX6_place_35 : decode cX6_place 35 = .ok (.ldc 74, 2) := by decide +kernel
theorem dX6_place_37 : decode cX6_place 37 = .ok (.ireturn, 1) := by decide +kernel
theorem dX6_place_38 : decode cX6_place 38 = .ok (.aload_n 0, 1) := by decide +kernel
theorem dX6_place_39 : decode cX6_place 39 = .ok (.aload_n 0, 1) := by decide +kernel
theorem dX6_place_40 : decode cX6_place 40 = .ok (.getfield 19, 3) := by decide +kernel
theorem dX6_place_43 : decode cX6_place 43 = .ok (.bipush 63, 2) := by decide +kernel
theorem dX6_place_45 : decode cX6_place 45 = .ok (.iconst 0, 1) := by decide +kernel
theorem dX6_place_46 : decode cX6_place 46 = .ok (.iconst 0, 1) := by decide +kernel
theorem dX6_place_47 : decode cX6_place 47 = .ok (.invokevirtual 177, 3) := by decide +kernel
theorem dX6_place_50 : decode cX6_place 50 = .ok (.iload_n 2, 1) := by decide +kernel
theorem dX6_place_51 : decode cX6_place 51 = .ok (.ifCond .ne 12, 3) := by decide +kernel
theorem dX6_place_54 : decode cX6_place 54 = .ok (.aload_n 0, 1) := by decide +kernel
theorem dX6_place_55 : decode cX6_place 55 = .ok (.getfield 37, 3) := by decide +kernel
theorem dX6_place_58 : decode cX6_place 58 = .ok (.iload_n 1, 1) := by decide +kernel
theorem dX6_place_59 : decode cX6_place 59 = .ok (.iaload, 1) := by decide +kernel
theorem dX6_place_60 : decode cX6_place 60 = .ok (.goto 31, 3) := by decide +kernel
theorem dX6_place_63 : decode cX6_place 63 = .ok (.iload_n 2, 1) := by decide +kernel
theorem dX6_place_64 : decode cX6_place 64 = .ok (.iconst 1, 1) := by decide +kernel
theorem dX6_place_65 : decode cX6_place 65 = .ok (.if_icmp .ne 17, 3) := by decide +kernel
theorem dX6_place_68 : decode cX6_place 68 = .ok (.aload_n 0, 1) := by decide +kernel
theorem dX6_place_69 : decode cX6_place 69 = .ok (.getfield 19, 3) := by decide +kernel
theorem dX6_place_72 : decode cX6_place 72 = .ok (.bipush 9, 2) := by decide +kernel
theorem dX6_place_74 : decode cX6_place 74 = .ok (.iaload, 1) := by decide +kernel
theorem dX6_place_75 : decode cX6_place 75 = .ok (.iload_n 1, 1) := by decide +kernel
theorem dX6_place_76 : decode cX6_place 76 = .ok (.ishr, 1) := by decide +kernel
theorem dX6_place_77 : decode cX6_place 77 = .ok (.iconst 1, 1) := by decide +kernel
theorem dX6_place_78 : decode cX6_place 78 = .ok (.iand, 1) := by decide +kernel
theorem dX6_place_79 : decode cX6_place 79 = .ok (.goto 12, 3) := by decide +kernel
theorem dX6_place_82 : decode cX6_place 82 = .ok (.aload_n 0, 1) := by decide +kernel
theorem dX6_place_83 : decode cX6_place 83 = .ok (.getfield 19, 3) := by decide +kernel
theorem dX6_place_86 : decode cX6_place 86 = .ok (.bipush 10, 2) := by decide +kernel
theorem dX6_place_88 : decode cX6_place 88 = .ok (.iload_n 1, 1) := by decide +kernel
theorem dX6_place_89 : decode cX6_place 89 = .ok (.iadd, 1) := by decide +kernel
theorem dX6_place_90 : decode cX6_place 90 = .ok (.iaload, 1) := by decide +kernel
theorem dX6_place_91 : decode cX6_place 91 = .ok (.ireturn, 1) := by decide +kernel
theorem dX6_far_0 : decode cX6_far 0 = .ok (.aload_n 0, 1) := by decide +kernel
theorem dX6_far_1 : decode cX6_far 1 = .ok (.iconst 0, 1) := by decide +kernel
theorem dX6_far_2 : decode cX6_far 2 = .ok (.putfield 54, 3) := by decide +kernel
theorem dX6_far_5 : decode cX6_far 5 = .ok (.aload_n 0, 1) := by decide +kernel
theorem dX6_far_6 : decode cX6_far 6 = .ok (.invokevirtual 193, 3) := by decide +kernel
theorem dX6_far_9 : decode cX6_far 9 = .ok (.ifCond .ne 6, 3) := by decide +kernel
theorem dX6_far_12 : decode cX6_far 12 = .ok (.ldc 196, 2) := by decide +kernel
theorem dX6_far_14 : decode cX6_far 14 = .ok (.ireturn, 1) := by decide +kernel
theorem dX6_far_15 : decode cX6_far 15 = .ok (.aload_n 0, 1) := by decide +kernel
theorem dX6_far_16 : decode cX6_far 16 = .ok (.iload_n 1, 1) := by decide +kernel
theorem dX6_far_17 : decode cX6_far 17 = .ok (.invokevirtual 205, 3) := by decide +kernel
theorem dX6_far_20 : decode cX6_far 20 = .ok (.ifCond .eq 20, 3) := by decide +kernel
theorem dX6_far_23 : decode cX6_far 23 = .ok (.aload_n 0, 1) := by decide +kernel
theorem dX6_far_24 : decode cX6_far 24 = .ok (.iload_n 2, 1) := by decide +kernel
theorem dX6_far_25 : decode cX6_far 25 = .ok (.invokevirtual 205, 3) := by decide +kernel
theorem dX6_far_28 : decode cX6_far 28 = .ok (.ifCond .eq 12, 3) := by decide +kernel
theorem dX6_far_31 : decode cX6_far 31 = .ok (.aload_n 0, 1) := by decide +kernel
theorem dX6_far_32 : decode cX6_far 32 = .ok (.iload_n 1, 1) := by decide +kernel
theorem dX6_far_33 : decode cX6_far 33 = .ok (.iload_n 2, 1) := by decide +kernel
theorem dX6_far_34 : decode cX6_far 34 = .ok (.invokevirtual 163, 3) := by decide +kernel
theorem dX6_far_37 : decode cX6_far 37 = .ok (.goto 5, 3) := by decide +kernel
theorem dX6_far_40 : decode cX6_far 40 = .ok (.ldc 74, 2) := by decide +kernel
theorem dX6_far_42 : decode cX6_far 42 = .ok (.ireturn, 1) := by decide +kernel
theorem dX6_ahead_0 : decode cX6_ahead 0 = .ok (.aload_n 0, 1) := by decide +kernel
theorem dX6_ahead_1 : decode cX6_ahead 1 = .ok (.iconst 0, 1) := by decide +kernel
theorem dX6_ahead_2 : decode cX6_ahead 2 = .ok (.putfield 54, 3) := by decide +kernel
theorem dX6_ahead_5 : decode cX6_ahead 5 = .ok (.aload_n 0, 1) := by decide +kernel
theorem dX6_ahead_6 : decode cX6_ahead 6 = .ok (.invokevirtual 193, 3) := by decide +kernel
theorem dX6_ahead_9 : decode cX6_ahead 9 = .ok (.ifCond .ne 6, 3) := by decide +kernel
theorem dX6_ahead_12 : decode cX6_ahead 12 = .ok (.ldc 196, 2) := by decide +kernel
theorem dX6_ahead_14 : decode cX6_ahead 14 = .ok (.ireturn, 1) := by decide +kernel
theorem dX6_ahead_15 : decode cX6_ahead 15 = .ok (.iload_n 1, 1) := by decide +kernel
theorem dX6_ahead_16 : decode cX6_ahead 16 = .ok (.i2l, 1) := by decide +kernel
theorem dX6_ahead_17 : decode cX6_ahead 17 = .ok (.lconst 0, 1) := by decide +kernel
theorem dX6_ahead_18 : decode cX6_ahead 18 = .ok (.ldc2_w 210, 3) := by decide +kernel
theorem dX6_ahead_21 : decode cX6_ahead 21 = .ok (.invokestatic 64, 3) := by decide +kernel
theorem dX6_ahead_24 : decode cX6_ahead 24 = .ok (.ifCond .eq 13, 3) := by decide +kernel
theorem dX6_ahead_27 : decode cX6_ahead 27 = .ok (.iload_n 2, 1) := by decide +kernel
theorem dX6_ahead_28 : decode cX6_ahead 28 = .ok (.i2l, 1) := by decide +kernel
theorem dX6_ahead_29 : decode cX6_ahead 29 = .ok (.lconst 0, 1) := by decide +kernel
theorem dX6_ahead_30 : decode cX6_ahead 30 = .ok (.lconst 1, 1) := by decide +kernel
theorem dX6_ahead_31 : decode cX6_ahead 31 = .ok (.invokestatic 64, 3) := by decide +kernel
theorem dX6_ahead_34 : decode cX6_ahead 34 = .ok (.ifCond .ne 6, 3) := by decide +kernel
theorem dX6_ahead_37 : decode cX6_ahead 37 = .ok (.ldc 74, 2) := by decide +kernel
theorem dX6_ahead_39 : decode cX6_ahead 39 = .ok (.ireturn, 1) := by decide +kernel
theorem dX6_ahead_40 : decode cX6_ahead 40 = .ok (.aload_n 0, 1) := by decide +kernel
theorem dX6_ahead_41 : decode cX6_ahead 41 = .ok (.invokevirtual 212, 3) := by decide +kernel
theorem dX6_ahead_44 : decode cX6_ahead 44 = .ok (.aload_n 0, 1) := by decide +kernel
theorem dX6_ahead_45 : decode cX6_ahead 45 = .ok (.iload_n 1, 1) := by decide +kernel
theorem dX6_ahead_46 : decode cX6_ahead 46 = .ok (.invokevirtual 215, 3) := by decide +kernel
theorem dX6_ahead_49 : decode cX6_ahead 49 = .ok (.istore_n 3, 1) := by decide +kernel
theorem dX6_ahead_50 : decode cX6_ahead 50 = .ok (.iload_n 2, 1) := by decide +kernel
theorem dX6_ahead_51 : decode cX6_ahead 51 = .ok (.ifCond .ne 7, 3) := by decide +kernel
theorem dX6_ahead_54 : decode cX6_ahead 54 = .ok (.iload_n 3, 1) := by decide +kernel
theorem dX6_ahead_55 : decode cX6_ahead 55 = .ok (.goto 10, 3) := by decide +kernel
theorem dX6_ahead_58 : decode cX6_ahead 58 = .ok (.aload_n 0, 1) := by decide +kernel
theorem dX6_ahead_59 : decode cX6_ahead 59 = .ok (.getfield 25, 3) := by decide +kernel
theorem dX6_ahead_62 : decode cX6_ahead 62 = .ok (.bipush 7, 2) := by decide +kernel
theorem dX6_ahead_64 : decode cX6_ahead 64 = .ok (.iaload, 1) := by decide +kernel
theorem dX6_ahead_65 : decode cX6_ahead 65 = .ok (.ireturn, 1) := by decide +kernel
theorem dX6_comes_0 : decode cX6_comes 0 = .ok (.aload_n 0, 1) := by decide +kernel
theorem dX6_comes_1 : decode cX6_comes 1 = .ok (.iconst 0, 1) := by decide +kernel
theorem dX6_comes_2 : decode cX6_comes 2 = .ok (.putfield 54, 3) := by decide +kernel
theorem dX6_comes_5 : decode cX6_comes 5 = .ok (.aload_n 0, 1) := by decide +kernel
theorem dX6_comes_6 : decode cX6_comes 6 = .ok (.invokevirtual 193, 3) := by decide +kernel
theorem dX6_comes_9 : decode cX6_comes 9 = .ok (.ifCond .ne 6, 3) := by decide +kernel
theorem dX6_comes_12 : decode cX6_comes 12 = .ok (.ldc 196, 2) := by decide +kernel
theorem dX6_comes_14 : decode cX6_comes 14 = .ok (.ireturn, 1) := by decide +kernel
theorem dX6_comes_15 : decode cX6_comes 15 = .ok (.aload_n 0, 1) := by decide +kernel
theorem dX6_comes_16 : decode cX6_comes 16 = .ok (.iload_n 1, 1) := by decide +kernel
theorem dX6_comes_17 : decode cX6_comes 17 = .ok (.invokevirtual 205, 3) := by decide +kernel
theorem dX6_comes_20 : decode cX6_comes 20 = .ok (.ifCond .eq 15, 3) := by decide +kernel
theorem dX6_comes_23 : decode cX6_comes 23 = .ok (.iload_n 2, 1) := by decide +kernel
theorem dX6_comes_24 : decode cX6_comes 24 = .ok (.i2l, 1) := by decide +kernel
theorem dX6_comes_25 : decode cX6_comes 25 = .ok (.lconst 1, 1) := by decide +kernel
theorem dX6_comes_26 : decode cX6_comes 26 = .ok (.ldc2_w 210, 3) := by decide +kernel
theorem dX6_comes_29 : decode cX6_comes 29 = .ok (.invokestatic 64, 3) := by decide +kernel
theorem dX6_comes_32 : decode cX6_comes 32 = .ok (.ifCond .ne 6, 3) := by decide +kernel
theorem dX6_comes_35 : decode cX6_comes 35 = .ok (.ldc 74, 2) := by decide +kernel
theorem dX6_comes_37 : decode cX6_comes 37 = .ok (.ireturn, 1) := by decide +kernel
theorem dX6_comes_38 : decode cX6_comes 38 = .ok (.aload_n 0, 1) := by decide +kernel
theorem dX6_comes_39 : decode cX6_comes 39 = .ok (.invokevirtual 212, 3) := by decide +kernel
theorem dX6_comes_42 : decode cX6_comes 42 = .ok (.iconst 0, 1) := by decide +kernel
theorem dX6_comes_43 : decode cX6_comes 43 = .ok (.istore_n 3, 1) := by decide +kernel
theorem dX6_comes_44 : decode cX6_comes 44 = .ok (.iload_n 3, 1) := by decide +kernel
theorem dX6_comes_45 : decode cX6_comes 45 = .ok (.iload_n 2, 1) := by decide +kernel
theorem dX6_comes_46 : decode cX6_comes 46 = .ok (.if_icmp .gt 31, 3) := by decide +kernel
theorem dX6_comes_49 : decode cX6_comes 49 = .ok (.aload_n 0, 1) := by decide +kernel
theorem dX6_comes_50 : decode cX6_comes 50 = .ok (.getfield 25, 3) := by decide +kernel
theorem dX6_comes_53 : decode cX6_comes 53 = .ok (.iconst 1, 1) := by decide +kernel
theorem dX6_comes_54 : decode cX6_comes 54 = .ok (.iaload, 1) := by decide +kernel
theorem dX6_comes_55 : decode cX6_comes 55 = .ok (.iload_n 1, 1) := by decide +kernel
theorem dX6_comes_56 : decode cX6_comes 56 = .ok (.if_icmp .ne 5, 3) := by decide +kernel
theorem dX6_comes_59 : decode cX6_comes 59 = .ok (.iload_n 3, 1) := by decide +kernel
theorem dX6_comes_60 : decode cX6_comes 60 = .ok (.ireturn, 1) := by decide +kernel
theorem dX6_comes_61 : decode cX6_comes 61 = .ok (.aload_n 0, 1) := by decide +kernel
theorem dX6_comes_62 : decode cX6_comes 62 = .ok (.aload_n 0, 1) := by decide +kernel
theorem dX6_comes_63 : decode cX6_comes 63 = .ok (.getfield 25, 3) := by decide +kernel
theorem dX6_comes_66 : decode cX6_comes 66 = .ok (.iconst 0, 1) := by decide +kernel
theorem dX6_comes_67 : decode cX6_comes 67 = .ok (.iconst 0, 1) := by decide +kernel
theorem dX6_comes_68 : decode cX6_comes 68 = .ok (.invokevirtual 185, 3) := by decide +kernel
theorem dX6_comes_71 : decode cX6_comes 71 = .ok (.iinc 3 1, 3) := by decide +kernel
theorem dX6_comes_74 : decode cX6_comes 74 = .ok (.goto (-30), 3) := by decide +kernel
theorem dX6_comes_77 : decode cX6_comes 77 = .ok (.ldc 97, 2) := by decide +kernel
theorem dX6_comes_79 : decode cX6_comes 79 = .ok (.ireturn, 1) := by decide +kernel
theorem dX6_visits_0 : decode cX6_visits 0 = .ok (.aload_n 0, 1) := by decide +kernel
theorem dX6_visits_1 : decode cX6_visits 1 = .ok (.iconst 0, 1) := by decide +kernel
theorem dX6_visits_2 : decode cX6_visits 2 = .ok (.putfield 54, 3) := by decide +kernel
theorem dX6_visits_5 : decode cX6_visits 5 = .ok (.aload_n 0, 1) := by decide +kernel
theorem dX6_visits_6 : decode cX6_visits 6 = .ok (.invokevirtual 193, 3) := by decide +kernel
theorem dX6_visits_9 : decode cX6_visits 9 = .ok (.ifCond .ne 6, 3) := by decide +kernel
theorem dX6_visits_12 : decode cX6_visits 12 = .ok (.ldc 196, 2) := by decide +kernel
theorem dX6_visits_14 : decode cX6_visits 14 = .ok (.ireturn, 1) := by decide +kernel
theorem dX6_visits_15 : decode cX6_visits 15 = .ok (.iload_n 1, 1) := by decide +kernel
theorem dX6_visits_16 : decode cX6_visits 16 = .ok (.i2l, 1) := by decide +kernel
theorem dX6_visits_17 : decode cX6_visits 17 = .ok (.lconst 0, 1) := by decide +kernel
theorem dX6_visits_18 : decode cX6_visits 18 = .ok (.ldc2_w 210, 3) := by decide +kernel
theorem dX6_visits_21 : decode cX6_visits 21 = .ok (.invokestatic 64, 3) := by decide +kernel
theorem dX6_visits_24 : decode cX6_visits 24 = .ok (.ifCond .ne 6, 3) := by decide +kernel
theorem dX6_visits_27 : decode cX6_visits 27 = .ok (.ldc 74, 2) := by decide +kernel
theorem dX6_visits_29 : decode cX6_visits 29 = .ok (.ireturn, 1) := by decide +kernel
theorem dX6_visits_30 : decode cX6_visits 30 = .ok (.aload_n 0, 1) := by decide +kernel
theorem dX6_visits_31 : decode cX6_visits 31 = .ok (.invokevirtual 212, 3) := by decide +kernel
theorem dX6_visits_34 : decode cX6_visits 34 = .ok (.iconst 1, 1) := by decide +kernel
theorem dX6_visits_35 : decode cX6_visits 35 = .ok (.aload_n 0, 1) := by decide +kernel
theorem dX6_visits_36 : decode cX6_visits 36 = .ok (.getfield 25, 3) := by decide +kernel
theorem dX6_visits_39 : decode cX6_visits 39 = .ok (.iconst 1, 1) := by decide +kernel
theorem dX6_visits_40 : decode cX6_visits 40 = .ok (.iaload, 1) := by decide +kernel
theorem dX6_visits_41 : decode cX6_visits 41 = .ok (.ishl, 1) := by decide +kernel
theorem dX6_visits_42 : decode cX6_visits 42 = .ok (.istore_n 2, 1) := by decide +kernel
theorem dX6_visits_43 : decode cX6_visits 43 = .ok (.iconst 0, 1) := by decide +kernel
theorem dX6_visits_44 : decode cX6_visits 44 = .ok (.istore_n 3, 1) := by decide +kernel
theorem dX6_visits_45 : decode cX6_visits 45 = .ok (.iload_n 3, 1) := by decide +kernel
theorem dX6_visits_46 : decode cX6_visits 46 = .ok (.iload_n 1, 1) := by decide +kernel
theorem dX6_visits_47 : decode cX6_visits 47 = .ok (.if_icmp .ge 30, 3) := by decide +kernel
theorem dX6_visits_50 : decode cX6_visits 50 = .ok (.aload_n 0, 1) := by decide +kernel
theorem dX6_visits_51 : decode cX6_visits 51 = .ok (.aload_n 0, 1) := by decide +kernel
theorem dX6_visits_52 : decode cX6_visits 52 = .ok (.getfield 25, 3) := by decide +kernel
theorem dX6_visits_55 : decode cX6_visits 55 = .ok (.iconst 0, 1) := by decide +kernel
theorem dX6_visits_56 : decode cX6_visits 56 = .ok (.iconst 0, 1) := by decide +kernel
theorem dX6_visits_57 : decode cX6_visits 57 = .ok (.invokevirtual 185, 3) := by decide +kernel
theorem dX6_visits_60 : decode cX6_visits 60 = .ok (.iload_n 2, 1) := by decide +kernel
theorem dX6_visits_61 : decode cX6_visits 61 = .ok (.iconst 1, 1) := by decide +kernel
theorem dX6_visits_62 : decode cX6_visits 62 = .ok (.aload_n 0, 1) := by decide +kernel
theorem dX6_visits_63 : decode cX6_visits 63 = .ok (.getfield 25, 3) := by decide +kernel
theorem dX6_visits_66 : decode cX6_visits 66 = .ok (.iconst 1, 1) := by decide +kernel
theorem dX6_visits_67 : decode cX6_visits 67 = .ok (.iaload, 1) := by decide +kernel
theorem dX6_visits_68 : decode cX6_visits 68 = .ok (.ishl, 1) := by decide +kernel
theorem dX6_visits_69 : decode cX6_visits 69 = .ok (.ior, 1) := by decide +kernel
theorem dX6_visits_70 : decode cX6_visits 70 = .ok (.istore_n 2, 1) := by decide +kernel
theorem dX6_visits_71 : decode cX6_visits 71 = .ok (.iinc 3 1, 3) := by decide +kernel
theorem dX6_visits_74 : decode cX6_visits 74 = .ok (.goto (-29), 3) := by decide +kernel
theorem dX6_visits_77 : decode cX6_visits 77 = .ok (.iload_n 2, 1) := by decide +kernel
theorem dX6_visits_78 : decode cX6_visits 78 = .ok (.ireturn, 1) := by decide +kernel
theorem dX6_bits_0 : decode cX6_bits 0 = .ok (.iconst 0, 1) := by decide +kernel
theorem dX6_bits_1 : decode cX6_bits 1 = .ok (.istore_n 1, 1) := by decide +kernel
theorem dX6_bits_2 : decode cX6_bits 2 = .ok (.iconst 0, 1) := by decide +kernel
theorem dX6_bits_3 : decode cX6_bits 3 = .ok (.istore_n 2, 1) := by decide +kernel
theorem dX6_bits_4 : decode cX6_bits 4 = .ok (.iload_n 2, 1) := by decide +kernel
theorem dX6_bits_5 : decode cX6_bits 5 = .ok (.bipush 6, 2) := by decide +kernel
theorem dX6_bits_7 : decode cX6_bits 7 = .ok (.if_icmp .ge 17, 3) := by decide +kernel
theorem dX6_bits_10 : decode cX6_bits 10 = .ok (.iload_n 1, 1) := by decide +kernel
theorem dX6_bits_11 : decode cX6_bits 11 = .ok (.iload_n 0, 1) := by decide +kernel
theorem dX6_bits_12 : decode cX6_bits 12 = .ok (.iload_n 2, 1) := by decide +kernel
theorem dX6_bits_13 : decode cX6_bits 13 = .ok (.ishr, 1) := by decide +kernel
theorem dX6_bits_14 : decode cX6_bits 14 = .ok (.iconst 1, 1) := by decide +kernel
theorem dX6_bits_15 : decode cX6_bits 15 = .ok (.iand, 1) := by decide +kernel
theorem dX6_bits_16 : decode cX6_bits 16 = .ok (.iadd, 1) := by decide +kernel
theorem dX6_bits_17 : decode cX6_bits 17 = .ok (.istore_n 1, 1) := by decide +kernel
theorem dX6_bits_18 : decode cX6_bits 18 = .ok (.iinc 2 1, 3) := by decide +kernel
theorem dX6_bits_21 : decode cX6_bits 21 = .ok (.goto (-17), 3) := by decide +kernel
theorem dX6_bits_24 : decode cX6_bits 24 = .ok (.iload_n 1, 1) := by decide +kernel
theorem dX6_bits_25 : decode cX6_bits 25 = .ok (.ireturn, 1) := by decide +kernel
theorem dX6_fewest_0 : decode cX6_fewest 0 = .ok (.aload_n 0, 1) := by decide +kernel
theorem dX6_fewest_1 : decode cX6_fewest 1 = .ok (.iconst 0, 1) := by decide +kernel
theorem dX6_fewest_2 : decode cX6_fewest 2 = .ok (.putfield 54, 3) := by decide +kernel
theorem dX6_fewest_5 : decode cX6_fewest 5 = .ok (.aload_n 0, 1) := by decide +kernel
theorem dX6_fewest_6 : decode cX6_fewest 6 = .ok (.invokevirtual 193, 3) := by decide +kernel
theorem dX6_fewest_9 : decode cX6_fewest 9 = .ok (.ifCond .ne 6, 3) := by decide +kernel
theorem dX6_fewest_12 : decode cX6_fewest 12 = .ok (.ldc 196, 2) := by decide +kernel
theorem dX6_fewest_14 : decode cX6_fewest 14 = .ok (.ireturn, 1) := by decide +kernel
theorem dX6_fewest_15 : decode cX6_fewest 15 = .ok (.aload_n 0, 1) := by decide +kernel
theorem dX6_fewest_16 : decode cX6_fewest 16 = .ok (.iload_n 1, 1) := by decide +kernel
theorem dX6_fewest_17 : decode cX6_fewest 17 = .ok (.invokevirtual 205, 3) := by decide +kernel
theorem dX6_fewest_20 : decode cX6_fewest 20 = .ok (.ifCond .eq 25, 3) := by decide +kernel
theorem dX6_fewest_23 : decode cX6_fewest 23 = .ok (.iload_n 2, 1) := by decide +kernel
theorem dX6_fewest_24 : decode cX6_fewest 24 = .ok (.i2l, 1) := by decide +kernel
theorem dX6_fewest_25 : decode cX6_fewest 25 = .ok (.lconst 1, 1) := by decide +kernel
theorem dX6_fewest_26 : decode cX6_fewest 26 = .ok (.ldc2_w 197, 3) := by decide +kernel
theorem dX6_fewest_29 : decode cX6_fewest 29 = .ok (.invokestatic 64, 3) := by decide +kernel
theorem dX6_fewest_32 : decode cX6_fewest 32 = .ok (.ifCond .eq 13, 3) := by decide +kernel
theorem dX6_fewest_35 : decode cX6_fewest 35 = .ok (.iload_n 3, 1) := by decide +kernel
theorem dX6_fewest_36 : decode cX6_fewest 36 = .ok (.i2l, 1) := by decide +kernel
theorem dX6_fewest_37 : decode cX6_fewest 37 = .ok (.lconst 0, 1) := by decide +kernel
theorem dX6_fewest_38 : decode cX6_fewest 38 = .ok (.lconst 1, 1) := by decide +kernel
theorem dX6_fewest_39 : decode cX6_fewest 39 = .ok (.invokestatic 64, 3) := by decide +kernel
theorem dX6_fewest_42 : decode cX6_fewest 42 = .ok (.ifCond .ne 6, 3) := by decide +kernel
theorem dX6_fewest_45 : decode cX6_fewest 45 = .ok (.ldc 74, 2) := by decide +kernel
theorem dX6_fewest_47 : decode cX6_fewest 47 = .ok (.ireturn, 1) := by decide +kernel
theorem dX6_fewest_48 : decode cX6_fewest 48 = .ok (.ldc 97, 2) := by decide +kernel
theorem dX6_fewest_50 : decode cX6_fewest 50 = .ok (.istore 4, 2) := by decide +kernel
theorem dX6_fewest_52 : decode cX6_fewest 52 = .ok (.iconst 0, 1) := by decide +kernel
theorem dX6_fewest_53 : decode cX6_fewest 53 = .ok (.istore 5, 2) := by decide +kernel
theorem dX6_fewest_55 : decode cX6_fewest 55 = .ok (.iload 5, 2) := by decide +kernel
theorem dX6_fewest_57 : decode cX6_fewest 57 = .ok (.iconst 1, 1) := by decide +kernel
theorem dX6_fewest_58 : decode cX6_fewest 58 = .ok (.aload_n 0, 1) := by decide +kernel
theorem dX6_fewest_59 : decode cX6_fewest 59 = .ok (.getfield 19, 3) := by decide +kernel
theorem dX6_fewest_62 : decode cX6_fewest 62 = .ok (.iconst 5, 1) := by decide +kernel
theorem dX6_fewest_63 : decode cX6_fewest 63 = .ok (.iaload, 1) := by decide +kernel
theorem dX6_fewest_64 : decode cX6_fewest 64 = .ok (.ishl, 1) := by decide +kernel
theorem dX6_fewest_65 : decode cX6_fewest 65 = .ok (.if_icmp .ge 118, 3) := by decide +kernel
theorem dX6_fewest_68 : decode cX6_fewest 68 = .ok (.iload 4, 2) := by decide +kernel
theorem dX6_fewest_70 : decode cX6_fewest 70 = .ok (.ldc 97, 2) := by decide +kernel
theorem dX6_fewest_72 : decode cX6_fewest 72 = .ok (.if_icmp .eq 16, 3) := by decide +kernel
theorem dX6_fewest_75 : decode cX6_fewest 75 = .ok (.iload 5, 2) := by decide +kernel
theorem dX6_fewest_77 : decode cX6_fewest 77 = .ok (.invokestatic 218, 3) := by decide +kernel
theorem dX6_fewest_80 : decode cX6_fewest 80 = .ok (.iload 4, 2) := by decide +kernel
theorem dX6_fewest_82 : decode cX6_fewest 82 = .ok (.invokestatic 218, 3) := by decide +kernel
theorem dX6_fewest_85 : decode cX6_fewest 85 = .ok (.if_icmp .ge 92, 3) := by decide +kernel
theorem dX6_fewest_88 : decode cX6_fewest 88 = .ok (.aload_n 0, 1) := by decide +kernel
theorem dX6_fewest_89 : decode cX6_fewest 89 = .ok (.invokevirtual 212, 3) := by decide +kernel
theorem dX6_fewest_92 : decode cX6_fewest 92 = .ok (.iconst 0, 1) := by decide +kernel
theorem dX6_fewest_93 : decode cX6_fewest 93 = .ok (.istore 6, 2) := by decide +kernel
theorem dX6_fewest_95 : decode cX6_fewest 95 = .ok (.iload 6, 2) := by decide +kernel
theorem dX6_fewest_97 : decode cX6_fewest 97 = .ok (.aload_n 0, 1) := by decide +kernel
theorem dX6_fewest_98 : decode cX6_fewest 98 = .ok (.getfield 19, 3) := by decide +kernel
theorem dX6_fewest_101 : decode cX6_fewest 101 = .ok (.iconst 5, 1) := by decide +kernel
theorem dX6_fewest_102 : decode cX6_fewest 102 = .ok (.iaload, 1) := by decide +kernel
theorem dX6_fewest_103 : decode cX6_fewest 103 = .ok (.if_icmp .ge 56, 3) := by decide +kernel
theorem dX6_fewest_106 : decode cX6_fewest 106 = .ok (.aload_n 0, 1) := by decide +kernel
theorem dX6_fewest_107 : decode cX6_fewest 107 = .ok (.getfield 25, 3) := by decide +kernel
theorem dX6_fewest_110 : decode cX6_fewest 110 = .ok (.bipush 16, 2) := by decide +kernel
theorem dX6_fewest_112 : decode cX6_fewest 112 = .ok (.bipush 8, 2) := by decide +kernel
theorem dX6_fewest_114 : decode cX6_fewest 114 = .ok (.iload 6, 2) := by decide +kernel
theorem dX6_fewest_116 : decode cX6_fewest 116 = .ok (.imul, 1) := by decide +kernel
theorem dX6_fewest_117 : decode cX6_fewest 117 = .ok (.iadd, 1) := by decide +kernel
theorem dX6_fewest_118 : decode cX6_fewest 118 = .ok (.bipush 7, 2) := by decide +kernel
theorem dX6_fewest_120 : decode cX6_fewest 120 = .ok (.iadd, 1) := by decide +kernel
theorem dX6_fewest_121 : decode cX6_fewest 121 = .ok (.iload 5, 2) := by decide +kernel
theorem dX6_fewest_123 : decode cX6_fewest 123 = .ok (.iload 6, 2) := by decide +kernel
theorem dX6_fewest_125 : decode cX6_fewest 125 = .ok (.ishr, 1) := by decide +kernel
theorem dX6_fewest_126 : decode cX6_fewest 126 = .ok (.iconst 1, 1) := by decide +kernel
theorem dX6_fewest_127 : decode cX6_fewest 127 = .ok (.iand, 1) := by decide +kernel
theorem dX6_fewest_128 : decode cX6_fewest 128 = .ok (.iconst 1, 1) := by decide +kernel
theorem dX6_fewest_129 : decode cX6_fewest 129 = .ok (.if_icmp .ne 22, 3) := by decide +kernel
theorem dX6_fewest_132 : decode cX6_fewest 132 = .ok (.aload_n 0, 1) := by decide +kernel
theorem dX6_fewest_133 : decode cX6_fewest 133 = .ok (.getfield 25, 3) := by decide +kernel
theorem dX6_fewest_136 : decode cX6_fewest 136 = .ok (.bipush 16, 2) := by decide +kernel
theorem dX6_fewest_138 : decode cX6_fewest 138 = .ok (.bipush 8, 2) := by decide +kernel
theorem dX6_fewest_140 : decode cX6_fewest 140 = .ok (.iload 6, 2) := by decide +kernel
theorem dX6_fewest_142 : decode cX6_fewest 142 = .ok (.imul, 1) := by decide +kernel
theorem dX6_fewest_143 : decode cX6_fewest 143 = .ok (.iadd, 1) := by decide +kernel
theorem dX6_fewest_144 : decode cX6_fewest 144 = .ok (.bipush 7, 2) := by decide +kernel
theorem dX6_fewest_146 : decode cX6_fewest 146 = .ok (.iadd, 1) := by decide +kernel
theorem dX6_fewest_147 : decode cX6_fewest 147 = .ok (.iaload, 1) := by decide +kernel
theorem dX6_fewest_148 : decode cX6_fewest 148 = .ok (.goto 4, 3) := by decide +kernel
theorem dX6_fewest_151 : decode cX6_fewest 151 = .ok (.iconst 1, 1) := by decide +kernel
theorem dX6_fewest_152 : decode cX6_fewest 152 = .ok (.iastore, 1) := by decide +kernel
theorem dX6_fewest_153 : decode cX6_fewest 153 = .ok (.iinc 6 1, 3) := by decide +kernel
theorem dX6_fewest_156 : decode cX6_fewest 156 = .ok (.goto (-61), 3) := by decide +kernel
theorem dX6_fewest_159 : decode cX6_fewest 159 = .ok (.aload_n 0, 1) := by decide +kernel
theorem dX6_fewest_160 : decode cX6_fewest 160 = .ok (.iload_n 2, 1) := by decide +kernel
theorem dX6_fewest_161 : decode cX6_fewest 161 = .ok (.invokevirtual 215, 3) := by decide +kernel
theorem dX6_fewest_164 : decode cX6_fewest 164 = .ok (.iload_n 1, 1) := by decide +kernel
theorem dX6_fewest_165 : decode cX6_fewest 165 = .ok (.if_icmp .ne 8, 3) := by decide +kernel
theorem dX6_fewest_168 : decode cX6_fewest 168 = .ok (.iload 5, 2) := by decide +kernel
theorem dX6_fewest_170 : decode cX6_fewest 170 = .ok (.goto 5, 3) := by decide +kernel
theorem dX6_fewest_173 : decode cX6_fewest 173 = .ok (.iload 4, 2) := by decide +kernel
theorem dX6_fewest_175 : decode cX6_fewest 175 = .ok (.istore 4, 2) := by decide +kernel
theorem dX6_fewest_177 : decode cX6_fewest 177 = .ok (.iinc 5 1, 3) := by decide +kernel
theorem dX6_fewest_180 : decode cX6_fewest 180 = .ok (.goto (-125), 3) := by decide +kernel
theorem dX6_fewest_183 : decode cX6_fewest 183 = .ok (.iload 4, 2) := by decide +kernel
theorem dX6_fewest_185 : decode cX6_fewest 185 = .ok (.ldc 97, 2) := by decide +kernel
theorem dX6_fewest_187 : decode cX6_fewest 187 = .ok (.if_icmp .eq 8, 3) := by decide +kernel
theorem dX6_fewest_190 : decode cX6_fewest 190 = .ok (.iload_n 3, 1) := by decide +kernel
theorem dX6_fewest_191 : decode cX6_fewest 191 = .ok (.iconst 1, 1) := by decide +kernel
theorem dX6_fewest_192 : decode cX6_fewest 192 = .ok (.if_icmp .ne 8, 3) := by decide +kernel
theorem dX6_fewest_195 : decode cX6_fewest 195 = .ok (.iload 4, 2) := by decide +kernel
theorem dX6_fewest_197 : decode cX6_fewest 197 = .ok (.goto 8, 3) := by decide +kernel
theorem dX6_fewest_200 : decode cX6_fewest 200 = .ok (.iload 4, 2) := by decide +kernel
theorem dX6_fewest_202 : decode cX6_fewest 202 = .ok (.invokestatic 218, 3) := by decide +kernel
theorem dX6_fewest_205 : decode cX6_fewest 205 = .ok (.ireturn, 1) := by decide +kernel
theorem dX6_hard_0 : decode cX6_hard 0 = .ok (.aload_n 0, 1) := by decide +kernel
theorem dX6_hard_1 : decode cX6_hard 1 = .ok (.iconst 0, 1) := by decide +kernel
theorem dX6_hard_2 : decode cX6_hard 2 = .ok (.putfield 54, 3) := by decide +kernel
theorem dX6_hard_5 : decode cX6_hard 5 = .ok (.aload_n 0, 1) := by decide +kernel
theorem dX6_hard_6 : decode cX6_hard 6 = .ok (.iload_n 1, 1) := by decide +kernel
theorem dX6_hard_7 : decode cX6_hard 7 = .ok (.invokevirtual 202, 3) := by decide +kernel
theorem dX6_hard_10 : decode cX6_hard 10 = .ok (.ifCond .eq 15, 3) := by decide +kernel
theorem dX6_hard_13 : decode cX6_hard 13 = .ok (.iload_n 2, 1) := by decide +kernel
theorem dX6_hard_14 : decode cX6_hard 14 = .ok (.i2l, 1) := by decide +kernel
theorem dX6_hard_15 : decode cX6_hard 15 = .ok (.lconst 1, 1) := by decide +kernel
theorem dX6_hard_16 : decode cX6_hard 16 = .ok (.ldc2_w 197, 3) := by decide +kernel
theorem dX6_hard_19 : decode cX6_hard 19 = .ok (.invokestatic 64, 3) := by decide +kernel
theorem dX6_hard_22 : decode cX6_hard 22 = .ok (.ifCond .ne 6, 3) := by decide +kernel
theorem dX6_hard_25 : decode cX6_hard 25 = .ok (.ldc 74, 2) := by decide +kernel
theorem dX6_hard_27 : decode cX6_hard 27 = .ok (.ireturn, 1) := by decide +kernel
theorem dX6_hard_28 : decode cX6_hard 28 = .ok (.iconst 0, 1) := by decide +kernel
theorem dX6_hard_29 : decode cX6_hard 29 = .ok (.istore_n 3, 1) := by decide +kernel
theorem dX6_hard_30 : decode cX6_hard 30 = .ok (.iload_n 3, 1) := by decide +kernel
theorem dX6_hard_31 : decode cX6_hard 31 = .ok (.bipush 41, 2) := by decide +kernel
theorem dX6_hard_33 : decode cX6_hard 33 = .ok (.if_icmp .ge 47, 3) := by decide +kernel
theorem dX6_hard_36 : decode cX6_hard 36 = .ok (.aload_n 0, 1) := by decide +kernel
theorem dX6_hard_37 : decode cX6_hard 37 = .ok (.invokevirtual 212, 3) := by decide +kernel
theorem dX6_hard_40 : decode cX6_hard 40 = .ok (.aload_n 0, 1) := by decide +kernel
theorem dX6_hard_41 : decode cX6_hard 41 = .ok (.getfield 25, 3) := by decide +kernel
theorem dX6_hard_44 : decode cX6_hard 44 = .ok (.bipush 16, 2) := by decide +kernel
theorem dX6_hard_46 : decode cX6_hard 46 = .ok (.bipush 8, 2) := by decide +kernel
theorem dX6_hard_48 : decode cX6_hard 48 = .ok (.iload_n 1, 1) := by decide +kernel
theorem dX6_hard_49 : decode cX6_hard 49 = .ok (.imul, 1) := by decide +kernel
theorem dX6_hard_50 : decode cX6_hard 50 = .ok (.iadd, 1) := by decide +kernel
theorem dX6_hard_51 : decode cX6_hard 51 = .ok (.iconst 3, 1) := by decide +kernel
theorem dX6_hard_52 : decode cX6_hard 52 = .ok (.iadd, 1) := by decide +kernel
theorem dX6_hard_53 : decode cX6_hard 53 = .ok (.iload_n 3, 1) := by decide +kernel
theorem dX6_hard_54 : decode cX6_hard 54 = .ok (.iastore, 1) := by decide +kernel
theorem dX6_hard_55 : decode cX6_hard 55 = .ok (.aload_n 0, 1) := by decide +kernel
theorem dX6_hard_56 : decode cX6_hard 56 = .ok (.iload_n 2, 1) := by decide +kernel
theorem dX6_hard_57 : decode cX6_hard 57 = .ok (.invokevirtual 215, 3) := by decide +kernel
theorem dX6_hard_60 : decode cX6_hard 60 = .ok (.aload_n 0, 1) := by decide +kernel
theorem dX6_hard_61 : decode cX6_hard 61 = .ok (.getfield 19, 3) := by decide +kernel
theorem dX6_hard_64 : decode cX6_hard 64 = .ok (.iload_n 1, 1) := by decide +kernel
theorem dX6_hard_65 : decode cX6_hard 65 = .ok (.iconst 2, 1) := by decide +kernel
theorem dX6_hard_66 : decode cX6_hard 66 = .ok (.invokestatic 159, 3) := by decide +kernel
theorem dX6_hard_69 : decode cX6_hard 69 = .ok (.if_icmp .ne 5, 3) := by decide +kernel
theorem dX6_hard_72 : decode cX6_hard 72 = .ok (.iload_n 3, 1) := by decide +kernel
theorem dX6_hard_73 : decode cX6_hard 73 = .ok (.ireturn, 1) := by decide +kernel
theorem dX6_hard_74 : decode cX6_hard 74 = .ok (.iinc 3 1, 3) := by decide +kernel
theorem dX6_hard_77 : decode cX6_hard 77 = .ok (.goto (-47), 3) := by decide +kernel
theorem dX6_hard_80 : decode cX6_hard 80 = .ok (.ldc 97, 2) := by decide +kernel
theorem dX6_hard_82 : decode cX6_hard 82 = .ok (.ireturn, 1) := by decide +kernel
theorem dX6_stolen_0 : decode cX6_stolen 0 = .ok (.aload_n 0, 1) := by decide +kernel
theorem dX6_stolen_1 : decode cX6_stolen 1 = .ok (.iconst 0, 1) := by decide +kernel
theorem dX6_stolen_2 : decode cX6_stolen 2 = .ok (.putfield 54, 3) := by decide +kernel
theorem dX6_stolen_5 : decode cX6_stolen 5 = .ok (.aload_n 0, 1) := by decide +kernel
theorem dX6_stolen_6 : decode cX6_stolen 6 = .ok (.invokevirtual 193, 3) := by decide +kernel
theorem dX6_stolen_9 : decode cX6_stolen 9 = .ok (.ifCond .ne 6, 3) := by decide +kernel
theorem dX6_stolen_12 : decode cX6_stolen 12 = .ok (.ldc 196, 2) := by decide +kernel
theorem dX6_stolen_14 : decode cX6_stolen 14 = .ok (.ireturn, 1) := by decide +kernel
theorem dX6_stolen_15 : decode cX6_stolen 15 = .ok (.aload_n 0, 1) := by decide +kernel
theorem dX6_stolen_16 : decode cX6_stolen 16 = .ok (.iload_n 1, 1) := by decide +kernel
theorem dX6_stolen_17 : decode cX6_stolen 17 = .ok (.invokevirtual 205, 3) := by decide +kernel
theorem dX6_stolen_20 : decode cX6_stolen 20 = .ok (.ifCond .eq 27, 3) := by decide +kernel
theorem dX6_stolen_23 : decode cX6_stolen 23 = .ok (.iload_n 2, 1) := by decide +kernel
theorem dX6_stolen_24 : decode cX6_stolen 24 = .ok (.i2l, 1) := by decide +kernel
theorem dX6_stolen_25 : decode cX6_stolen 25 = .ok (.lconst 0, 1) := by decide +kernel
theorem dX6_stolen_26 : decode cX6_stolen 26 = .ok (.ldc2_w 210, 3) := by decide +kernel
theorem dX6_stolen_29 : decode cX6_stolen 29 = .ok (.invokestatic 64, 3) := by decide +kernel
theorem dX6_stolen_32 : decode cX6_stolen 32 = .ok (.ifCond .eq 15, 3) := by decide +kernel
theorem dX6_stolen_35 : decode cX6_stolen 35 = .ok (.iload_n 3, 1) := by decide +kernel
theorem dX6_stolen_36 : decode cX6_stolen 36 = .ok (.i2l, 1) := by decide +kernel
theorem dX6_stolen_37 : decode cX6_stolen 37 = .ok (.lconst 1, 1) := by decide +kernel
theorem dX6_stolen_38 : decode cX6_stolen 38 = .ok (.ldc2_w 197, 3) := by decide +kernel
theorem dX6_stolen_41 : decode cX6_stolen 41 = .ok (.invokestatic 64, 3) := by decide +kernel
theorem dX6_stolen_44 : decode cX6_stolen 44 = .ok (.ifCond .ne 6, 3) := by decide +kernel
theorem dX6_stolen_47 : decode cX6_stolen 47 = .ok (.ldc 74, 2) := by decide +kernel
theorem dX6_stolen_49 : decode cX6_stolen 49 = .ok (.ireturn, 1) := by decide +kernel
theorem dX6_stolen_50 : decode cX6_stolen 50 = .ok (.aload_n 0, 1) := by decide +kernel
theorem dX6_stolen_51 : decode cX6_stolen 51 = .ok (.invokevirtual 212, 3) := by decide +kernel
theorem dX6_stolen_54 : decode cX6_stolen 54 = .ok (.iconst 0, 1) := by decide +kernel
theorem dX6_stolen_55 : decode cX6_stolen 55 = .ok (.istore 4, 2) := by decide +kernel
theorem dX6_stolen_57 : decode cX6_stolen 57 = .ok (.iconst 0, 1) := by decide +kernel
theorem dX6_stolen_58 : decode cX6_stolen 58 = .ok (.istore 5, 2) := by decide +kernel
theorem dX6_stolen_60 : decode cX6_stolen 60 = .ok (.iload 5, 2) := by decide +kernel
theorem dX6_stolen_62 : decode cX6_stolen 62 = .ok (.iload_n 3, 1) := by decide +kernel
theorem dX6_stolen_63 : decode cX6_stolen 63 = .ok (.if_icmp .ge 76, 3) := by decide +kernel
theorem dX6_stolen_66 : decode cX6_stolen 66 = .ok (.aload_n 0, 1) := by decide +kernel
theorem dX6_stolen_67 : decode cX6_stolen 67 = .ok (.aload_n 0, 1) := by decide +kernel
theorem dX6_stolen_68 : decode cX6_stolen 68 = .ok (.getfield 25, 3) := by decide +kernel
theorem dX6_stolen_71 : decode cX6_stolen 71 = .ok (.bipush 63, 2) := by decide +kernel
theorem dX6_stolen_73 : decode cX6_stolen 73 = .ok (.iload_n 1, 1) := by decide +kernel
theorem dX6_stolen_74 : decode cX6_stolen 74 = .ok (.iload_n 2, 1) := by decide +kernel
theorem dX6_stolen_75 : decode cX6_stolen 75 = .ok (.invokevirtual 177, 3) := by decide +kernel
theorem dX6_stolen_78 : decode cX6_stolen 78 = .ok (.aload_n 0, 1) := by decide +kernel
theorem dX6_stolen_79 : decode cX6_stolen 79 = .ok (.aload_n 0, 1) := by decide +kernel
theorem dX6_stolen_80 : decode cX6_stolen 80 = .ok (.getfield 25, 3) := by decide +kernel
theorem dX6_stolen_83 : decode cX6_stolen 83 = .ok (.invokevirtual 181, 3) := by decide +kernel
theorem dX6_stolen_86 : decode cX6_stolen 86 = .ok (.istore 6, 2) := by decide +kernel
theorem dX6_stolen_88 : decode cX6_stolen 88 = .ok (.iload 4, 2) := by decide +kernel
theorem dX6_stolen_90 : decode cX6_stolen 90 = .ok (.iload 6, 2) := by decide +kernel
theorem dX6_stolen_92 : decode cX6_stolen 92 = .ok (.ldc 97, 2) := by decide +kernel
theorem dX6_stolen_94 : decode cX6_stolen 94 = .ok (.if_icmp .ne 12, 3) := by decide +kernel
theorem dX6_stolen_97 : decode cX6_stolen 97 = .ok (.aload_n 0, 1) := by decide +kernel
theorem dX6_stolen_98 : decode cX6_stolen 98 = .ok (.getfield 25, 3) := by decide +kernel
theorem dX6_stolen_101 : decode cX6_stolen 101 = .ok (.iconst 1, 1) := by decide +kernel
theorem dX6_stolen_102 : decode cX6_stolen 102 = .ok (.iaload, 1) := by decide +kernel
theorem dX6_stolen_103 : decode cX6_stolen 103 = .ok (.goto 5, 3) := by decide +kernel
theorem dX6_stolen_106 : decode cX6_stolen 106 = .ok (.iload 6, 2) := by decide +kernel
theorem dX6_stolen_108 : decode cX6_stolen 108 = .ok (.iload_n 1, 1) := by decide +kernel
theorem dX6_stolen_109 : decode cX6_stolen 109 = .ok (.if_icmp .ne 10, 3) := by decide +kernel
theorem dX6_stolen_112 : decode cX6_stolen 112 = .ok (.iconst 1, 1) := by decide +kernel
theorem dX6_stolen_113 : decode cX6_stolen 113 = .ok (.iload 5, 2) := by decide +kernel
theorem dX6_stolen_115 : decode cX6_stolen 115 = .ok (.ishl, 1) := by decide +kernel
theorem dX6_stolen_116 : decode cX6_stolen 116 = .ok (.goto 4, 3) := by decide +kernel
theorem dX6_stolen_119 : decode cX6_stolen 119 = .ok (.iconst 0, 1) := by decide +kernel
theorem dX6_stolen_120 : decode cX6_stolen 120 = .ok (.ior, 1) := by decide +kernel
theorem dX6_stolen_121 : decode cX6_stolen 121 = .ok (.istore 4, 2) := by decide +kernel
theorem dX6_stolen_123 : decode cX6_stolen 123 = .ok (.aload_n 0, 1) := by decide +kernel
theorem dX6_stolen_124 : decode cX6_stolen 124 = .ok (.aload_n 0, 1) := by decide +kernel
theorem dX6_stolen_125 : decode cX6_stolen 125 = .ok (.getfield 25, 3) := by decide +kernel
theorem dX6_stolen_128 : decode cX6_stolen 128 = .ok (.iconst 0, 1) := by decide +kernel
theorem dX6_stolen_129 : decode cX6_stolen 129 = .ok (.iconst 0, 1) := by decide +kernel
theorem dX6_stolen_130 : decode cX6_stolen 130 = .ok (.invokevirtual 185, 3) := by decide +kernel
theorem dX6_stolen_133 : decode cX6_stolen 133 = .ok (.iinc 5 1, 3) := by decide +kernel
theorem dX6_stolen_136 : decode cX6_stolen 136 = .ok (.goto (-76), 3) := by decide +kernel
theorem dX6_stolen_139 : decode cX6_stolen 139 = .ok (.iload 4, 2) := by decide +kernel
theorem dX6_stolen_141 : decode cX6_stolen 141 = .ok (.ireturn, 1) := by decide +kernel
theorem dX6_comesSo_0 : decode cX6_comesSo 0 = .ok (.iconst 1, 1) := by decide +kernel
theorem dX6_comesSo_1 : decode cX6_comesSo 1 = .ok (.istore_n 3, 1) := by decide +kernel
theorem dX6_comesSo_2 : decode cX6_comesSo 2 = .ok (.iconst 0, 1) := by decide +kernel
theorem dX6_comesSo_3 : decode cX6_comesSo 3 = .ok (.istore 4, 2) := by decide +kernel
theorem dX6_comesSo_5 : decode cX6_comesSo 5 = .ok (.iload 4, 2) := by decide +kernel
theorem dX6_comesSo_7 : decode cX6_comesSo 7 = .ok (.iload_n 2, 1) := by decide +kernel
theorem dX6_comesSo_8 : decode cX6_comesSo 8 = .ok (.if_icmp .ge 60, 3) := by decide +kernel
theorem dX6_comesSo_11 : decode cX6_comesSo 11 = .ok (.aload_n 0, 1) := by decide +kernel
theorem dX6_comesSo_12 : decode cX6_comesSo 12 = .ok (.aload_n 0, 1) := by decide +kernel
theorem dX6_comesSo_13 : decode cX6_comesSo 13 = .ok (.getfield 25, 3) := by decide +kernel
theorem dX6_comesSo_16 : decode cX6_comesSo 16 = .ok (.iconst 0, 1) := by decide +kernel
theorem dX6_comesSo_17 : decode cX6_comesSo 17 = .ok (.iconst 0, 1) := by decide +kernel
theorem dX6_comesSo_18 : decode cX6_comesSo 18 = .ok (.invokevirtual 185, 3) := by decide +kernel
theorem dX6_comesSo_21 : decode cX6_comesSo 21 = .ok (.iload_n 3, 1) := by decide +kernel
theorem dX6_comesSo_22 : decode cX6_comesSo 22 = .ok (.ifCond .eq 38, 3) := by decide +kernel
theorem dX6_comesSo_25 : decode cX6_comesSo 25 = .ok (.aload_n 0, 1) := by decide +kernel
theorem dX6_comesSo_26 : decode cX6_comesSo 26 = .ok (.getfield 16, 3) := by decide +kernel
theorem dX6_comesSo_29 : decode cX6_comesSo 29 = .ok (.iload_n 1, 1) := by decide +kernel
theorem dX6_comesSo_30 : decode cX6_comesSo 30 = .ok (.iload 4, 2) := by decide +kernel
theorem dX6_comesSo_32 : decode cX6_comesSo 32 = .ok (.iadd, 1) := by decide +kernel
theorem dX6_comesSo_33 : decode cX6_comesSo 33 = .ok (.iaload, 1) := by decide +kernel
theorem dX6_comesSo_34 : decode cX6_comesSo 34 = .ok (.iconst (-1), 1) := by decide +kernel
theorem dX6_comesSo_35 : decode cX6_comesSo 35 = .ok (.if_icmp .eq 21, 3) := by decide +kernel
theorem dX6_comesSo_38 : decode cX6_comesSo 38 = .ok (.aload_n 0, 1) := by decide +kernel
theorem dX6_comesSo_39 : decode cX6_comesSo 39 = .ok (.getfield 16, 3) := by decide +kernel
theorem dX6_comesSo_42 : decode cX6_comesSo 42 = .ok (.iload_n 1, 1) := by decide +kernel
theorem dX6_comesSo_43 : decode cX6_comesSo 43 = .ok (.iload 4, 2) := by decide +kernel
theorem dX6_comesSo_45 : decode cX6_comesSo 45 = .ok (.iadd, 1) := by decide +kernel
theorem dX6_comesSo_46 : decode cX6_comesSo 46 = .ok (.iaload, 1) := by decide +kernel
theorem dX6_comesSo_47 : decode cX6_comesSo 47 = .ok (.aload_n 0, 1) := by decide +kernel
theorem dX6_comesSo_48 : decode cX6_comesSo 48 = .ok (.getfield 25, 3) := by decide +kernel
theorem dX6_comesSo_51 : decode cX6_comesSo 51 = .ok (.iconst 1, 1) := by decide +kernel
theorem dX6_comesSo_52 : decode cX6_comesSo 52 = .ok (.iaload, 1) := by decide +kernel
theorem dX6_comesSo_53 : decode cX6_comesSo 53 = .ok (.if_icmp .ne 7, 3) := by decide +kernel
theorem dX6_comesSo_56 : decode cX6_comesSo 56 = .ok (.iconst 1, 1) := by decide +kernel
theorem dX6_comesSo_57 : decode cX6_comesSo 57 = .ok (.goto 4, 3) := by decide +kernel
theorem dX6_comesSo_60 : decode cX6_comesSo 60 = .ok (.iconst 0, 1) := by decide +kernel
theorem dX6_comesSo_61 : decode cX6_comesSo 61 = .ok (.istore_n 3, 1) := by decide +kernel
theorem dX6_comesSo_62 : decode cX6_comesSo 62 = .ok (.iinc 4 1, 3) := by decide +kernel
theorem dX6_comesSo_65 : decode cX6_comesSo 65 = .ok (.goto (-60), 3) := by decide +kernel
theorem dX6_comesSo_68 : decode cX6_comesSo 68 = .ok (.iload_n 3, 1) := by decide +kernel
theorem dX6_comesSo_69 : decode cX6_comesSo 69 = .ok (.ireturn, 1) := by decide +kernel
theorem dX6_seen_0 : decode cX6_seen 0 = .ok (.aload_n 0, 1) := by decide +kernel
theorem dX6_seen_1 : decode cX6_seen 1 = .ok (.iconst 0, 1) := by decide +kernel
theorem dX6_seen_2 : decode cX6_seen 2 = .ok (.putfield 54, 3) := by decide +kernel
theorem dX6_seen_5 : decode cX6_seen 5 = .ok (.aload_n 0, 1) := by decide +kernel
theorem dX6_seen_6 : decode cX6_seen 6 = .ok (.invokevirtual 193, 3) := by decide +kernel
theorem dX6_seen_9 : decode cX6_seen 9 = .ok (.ifCond .ne 6, 3) := by decide +kernel
theorem dX6_seen_12 : decode cX6_seen 12 = .ok (.ldc 196, 2) := by decide +kernel
theorem dX6_seen_14 : decode cX6_seen 14 = .ok (.ireturn, 1) := by decide +kernel
theorem dX6_seen_15 : decode cX6_seen 15 = .ok (.iload_n 1, 1) := by decide +kernel
theorem dX6_seen_16 : decode cX6_seen 16 = .ok (.invokestatic 68, 3) := by decide +kernel
theorem dX6_seen_19 : decode cX6_seen 19 = .ok (.ifCond .eq 26, 3) := by decide +kernel
theorem dX6_seen_22 : decode cX6_seen 22 = .ok (.iload_n 3, 1) := by decide +kernel
theorem dX6_seen_23 : decode cX6_seen 23 = .ok (.i2l, 1) := by decide +kernel
theorem dX6_seen_24 : decode cX6_seen 24 = .ok (.lconst 1, 1) := by decide +kernel
theorem dX6_seen_25 : decode cX6_seen 25 = .ok (.ldc2_w 221, 3) := by decide +kernel
theorem dX6_seen_28 : decode cX6_seen 28 = .ok (.invokestatic 64, 3) := by decide +kernel
theorem dX6_seen_31 : decode cX6_seen 31 = .ok (.ifCond .eq 14, 3) := by decide +kernel
theorem dX6_seen_34 : decode cX6_seen 34 = .ok (.iload 4, 2) := by decide +kernel
theorem dX6_seen_36 : decode cX6_seen 36 = .ok (.i2l, 1) := by decide +kernel
theorem dX6_seen_37 : decode cX6_seen 37 = .ok (.lconst 0, 1) := by decide +kernel
theorem dX6_seen_38 : decode cX6_seen 38 = .ok (.lconst 1, 1) := by decide +kernel
theorem dX6_seen_39 : decode cX6_seen 39 = .ok (.invokestatic 64, 3) := by decide +kernel
theorem dX6_seen_42 : decode cX6_seen 42 = .ok (.ifCond .ne 6, 3) := by decide +kernel
theorem dX6_seen_45 : decode cX6_seen 45 = .ok (.ldc 74, 2) := by decide +kernel
theorem dX6_seen_47 : decode cX6_seen 47 = .ok (.ireturn, 1) := by decide +kernel
theorem dX6_seen_48 : decode cX6_seen 48 = .ok (.aload_n 0, 1) := by decide +kernel
theorem dX6_seen_49 : decode cX6_seen 49 = .ok (.getfield 7, 3) := by decide +kernel
theorem dX6_seen_52 : decode cX6_seen 52 = .ok (.iload_n 1, 1) := by decide +kernel
theorem dX6_seen_53 : decode cX6_seen 53 = .ok (.iaload, 1) := by decide +kernel
theorem dX6_seen_54 : decode cX6_seen 54 = .ok (.ifCond .ge 9, 3) := by decide +kernel
theorem dX6_seen_57 : decode cX6_seen 57 = .ok (.aload_n 0, 1) := by decide +kernel
theorem dX6_seen_58 : decode cX6_seen 58 = .ok (.iconst 1, 1) := by decide +kernel
theorem dX6_seen_59 : decode cX6_seen 59 = .ok (.invokevirtual 75, 3) := by decide +kernel
theorem dX6_seen_62 : decode cX6_seen 62 = .ok (.ireturn, 1) := by decide +kernel
theorem dX6_seen_63 : decode cX6_seen 63 = .ok (.iload_n 2, 1) := by decide +kernel
theorem dX6_seen_64 : decode cX6_seen 64 = .ok (.ifCond .lt 19, 3) := by decide +kernel
theorem dX6_seen_67 : decode cX6_seen 67 = .ok (.iload_n 2, 1) := by decide +kernel
theorem dX6_seen_68 : decode cX6_seen 68 = .ok (.i2l, 1) := by decide +kernel
theorem dX6_seen_69 : decode cX6_seen 69 = .ok (.iload_n 3, 1) := by decide +kernel
theorem dX6_seen_70 : decode cX6_seen 70 = .ok (.i2l, 1) := by decide +kernel
theorem dX6_seen_71 : decode cX6_seen 71 = .ok (.ladd, 1) := by decide +kernel
theorem dX6_seen_72 : decode cX6_seen 72 = .ok (.aload_n 0, 1) := by decide +kernel
theorem dX6_seen_73 : decode cX6_seen 73 = .ok (.getfield 13, 3) := by decide +kernel
theorem dX6_seen_76 : decode cX6_seen 76 = .ok (.iload_n 1, 1) := by decide +kernel
theorem dX6_seen_77 : decode cX6_seen 77 = .ok (.iaload, 1) := by decide +kernel
theorem dX6_seen_78 : decode cX6_seen 78 = .ok (.i2l, 1) := by decide +kernel
theorem dX6_seen_79 : decode cX6_seen 79 = .ok (.lcmp, 1) := by decide +kernel
theorem dX6_seen_80 : decode cX6_seen 80 = .ok (.ifCond .le 9, 3) := by decide +kernel
theorem dX6_seen_83 : decode cX6_seen 83 = .ok (.aload_n 0, 1) := by decide +kernel
theorem dX6_seen_84 : decode cX6_seen 84 = .ok (.iconst 2, 1) := by decide +kernel
theorem dX6_seen_85 : decode cX6_seen 85 = .ok (.invokevirtual 75, 3) := by decide +kernel
theorem dX6_seen_88 : decode cX6_seen 88 = .ok (.ireturn, 1) := by decide +kernel
theorem dX6_seen_89 : decode cX6_seen 89 = .ok (.aload_n 0, 1) := by decide +kernel
theorem dX6_seen_90 : decode cX6_seen 90 = .ok (.iconst 0, 1) := by decide +kernel
theorem dX6_seen_91 : decode cX6_seen 91 = .ok (.putfield 58, 3) := by decide +kernel
theorem dX6_seen_94 : decode cX6_seen 94 = .ok (.iconst 0, 1) := by decide +kernel
theorem dX6_seen_95 : decode cX6_seen 95 = .ok (.istore 5, 2) := by decide +kernel
theorem dX6_seen_97 : decode cX6_seen 97 = .ok (.ldc 97, 2) := by decide +kernel
theorem dX6_seen_99 : decode cX6_seen 99 = .ok (.istore 6, 2) := by decide +kernel
theorem dX6_seen_101 : decode cX6_seen 101 = .ok (.aload_n 0, 1) := by decide +kernel
theorem dX6_seen_102 : decode cX6_seen 102 = .ok (.getfield 19, 3) := by decide +kernel
theorem dX6_seen_105 : decode cX6_seen 105 = .ok (.iconst 0, 1) := by decide +kernel
theorem dX6_seen_106 : decode cX6_seen 106 = .ok (.iaload, 1) := by decide +kernel
theorem dX6_seen_107 : decode cX6_seen 107 = .ok (.iconst 1, 1) := by decide +kernel
theorem dX6_seen_108 : decode cX6_seen 108 = .ok (.isub, 1) := by decide +kernel
theorem dX6_seen_109 : decode cX6_seen 109 = .ok (.istore 7, 2) := by decide +kernel
theorem dX6_seen_111 : decode cX6_seen 111 = .ok (.iload 7, 2) := by decide +kernel
theorem dX6_seen_113 : decode cX6_seen 113 = .ok (.ifCond .lt 63, 3) := by decide +kernel
theorem dX6_seen_116 : decode cX6_seen 116 = .ok (.aload_n 0, 1) := by decide +kernel
theorem dX6_seen_117 : decode cX6_seen 117 = .ok (.invokevirtual 212, 3) := by decide +kernel
theorem dX6_seen_120 : decode cX6_seen 120 = .ok (.aload_n 0, 1) := by decide +kernel
theorem dX6_seen_121 : decode cX6_seen 121 = .ok (.getfield 25, 3) := by decide +kernel
theorem dX6_seen_124 : decode cX6_seen 124 = .ok (.iconst 1, 1) := by decide +kernel
theorem dX6_seen_125 : decode cX6_seen 125 = .ok (.iload 7, 2) := by decide +kernel
theorem dX6_seen_127 : decode cX6_seen 127 = .ok (.iastore, 1) := by decide +kernel
theorem dX6_seen_128 : decode cX6_seen 128 = .ok (.aload_n 0, 1) := by decide +kernel
theorem dX6_seen_129 : decode cX6_seen 129 = .ok (.bipush 40, 2) := by decide +kernel
theorem dX6_seen_131 : decode cX6_seen 131 = .ok (.iload_n 1, 1) := by decide +kernel
theorem dX6_seen_132 : decode cX6_seen 132 = .ok (.imul, 1) := by decide +kernel
theorem dX6_seen_133 : decode cX6_seen 133 = .ok (.iload_n 2, 1) := by decide +kernel
theorem dX6_seen_134 : decode cX6_seen 134 = .ok (.iadd, 1) := by decide +kernel
theorem dX6_seen_135 : decode cX6_seen 135 = .ok (.iload_n 3, 1) := by decide +kernel
theorem dX6_seen_136 : decode cX6_seen 136 = .ok (.invokevirtual 223, 3) := by decide +kernel
theorem dX6_seen_139 : decode cX6_seen 139 = .ok (.istore 8, 2) := by decide +kernel
theorem dX6_seen_141 : decode cX6_seen 141 = .ok (.iload 5, 2) := by decide +kernel
theorem dX6_seen_143 : decode cX6_seen 143 = .ok (.iload 8, 2) := by decide +kernel
theorem dX6_seen_145 : decode cX6_seen 145 = .ok (.ifCond .eq 7, 3) := by decide +kernel
theorem dX6_seen_148 : decode cX6_seen 148 = .ok (.iconst 1, 1) := by decide +kernel
theorem dX6_seen_149 : decode cX6_seen 149 = .ok (.goto 4, 3) := by decide +kernel
theorem dX6_seen_152 : decode cX6_seen 152 = .ok (.iconst 0, 1) := by decide +kernel
theorem dX6_seen_153 : decode cX6_seen 153 = .ok (.iadd, 1) := by decide +kernel
theorem dX6_seen_154 : decode cX6_seen 154 = .ok (.istore 5, 2) := by decide +kernel
theorem dX6_seen_156 : decode cX6_seen 156 = .ok (.iload 8, 2) := by decide +kernel
theorem dX6_seen_158 : decode cX6_seen 158 = .ok (.ifCond .eq 8, 3) := by decide +kernel
theorem dX6_seen_161 : decode cX6_seen 161 = .ok (.iload 7, 2) := by decide +kernel
theorem dX6_seen_163 : decode cX6_seen 163 = .ok (.goto 5, 3) := by decide +kernel
theorem dX6_seen_166 : decode cX6_seen 166 = .ok (.iload 6, 2) := by decide +kernel
theorem dX6_seen_168 : decode cX6_seen 168 = .ok (.istore 6, 2) := by decide +kernel
theorem dX6_seen_170 : decode cX6_seen 170 = .ok (.iinc 7 (-1), 3) := by decide +kernel
theorem dX6_seen_173 : decode cX6_seen 173 = .ok (.goto (-62), 3) := by decide +kernel
theorem dX6_seen_176 : decode cX6_seen 176 = .ok (.iload 4, 2) := by decide +kernel
theorem dX6_seen_178 : decode cX6_seen 178 = .ok (.ifCond .ne 8, 3) := by decide +kernel
theorem dX6_seen_181 : decode cX6_seen 181 = .ok (.iload 5, 2) := by decide +kernel
theorem dX6_seen_183 : decode cX6_seen 183 = .ok (.goto 5, 3) := by decide +kernel
theorem dX6_seen_186 : decode cX6_seen 186 = .ok (.iload 6, 2) := by decide +kernel
theorem dX6_seen_188 : decode cX6_seen 188 = .ok (.ireturn, 1) := by decide +kernel
theorem dX6_who_0 : decode cX6_who 0 = .ok (.aload_n 0, 1) := by decide +kernel
theorem dX6_who_1 : decode cX6_who 1 = .ok (.iconst 0, 1) := by decide +kernel
theorem dX6_who_2 : decode cX6_who 2 = .ok (.putfield 54, 3) := by decide +kernel
theorem dX6_who_5 : decode cX6_who 5 = .ok (.aload_n 0, 1) := by decide +kernel
theorem dX6_who_6 : decode cX6_who 6 = .ok (.iload_n 1, 1) := by decide +kernel
theorem dX6_who_7 : decode cX6_who 7 = .ok (.invokevirtual 202, 3) := by decide +kernel
theorem dX6_who_10 : decode cX6_who 10 = .ok (.ifCond .eq 23, 3) := by decide +kernel
theorem dX6_who_13 : decode cX6_who 13 = .ok (.iload_n 2, 1) := by decide +kernel
theorem dX6_who_14 : decode cX6_who 14 = .ok (.invokestatic 68, 3) := by decide +kernel
theorem dX6_who_17 : decode cX6_who 17 = .ok (.ifCond .eq 16, 3) := by decide +kernel
theorem dX6_who_20 : decode cX6_who 20 = .ok (.iload 4, 2) := by decide +kernel
theorem dX6_who_22 : decode cX6_who 22 = .ok (.i2l, 1) := by decide +kernel
theorem dX6_who_23 : decode cX6_who 23 = .ok (.lconst 1, 1) := by decide +kernel
theorem dX6_who_24 : decode cX6_who 24 = .ok (.ldc2_w 221, 3) := by decide +kernel
theorem dX6_who_27 : decode cX6_who 27 = .ok (.invokestatic 64, 3) := by decide +kernel
theorem dX6_who_30 : decode cX6_who 30 = .ok (.ifCond .ne 6, 3) := by decide +kernel
theorem dX6_who_33 : decode cX6_who 33 = .ok (.ldc 74, 2) := by decide +kernel
theorem dX6_who_35 : decode cX6_who 35 = .ok (.ireturn, 1) := by decide +kernel
theorem dX6_who_36 : decode cX6_who 36 = .ok (.aload_n 0, 1) := by decide +kernel
theorem dX6_who_37 : decode cX6_who 37 = .ok (.getfield 7, 3) := by decide +kernel
theorem dX6_who_40 : decode cX6_who 40 = .ok (.iload_n 2, 1) := by decide +kernel
theorem dX6_who_41 : decode cX6_who 41 = .ok (.iaload, 1) := by decide +kernel
theorem dX6_who_42 : decode cX6_who 42 = .ok (.ifCond .ge 9, 3) := by decide +kernel
theorem dX6_who_45 : decode cX6_who 45 = .ok (.aload_n 0, 1) := by decide +kernel
theorem dX6_who_46 : decode cX6_who 46 = .ok (.iconst 1, 1) := by decide +kernel
theorem dX6_who_47 : decode cX6_who 47 = .ok (.invokevirtual 75, 3) := by decide +kernel
theorem dX6_who_50 : decode cX6_who 50 = .ok (.ireturn, 1) := by decide +kernel
theorem dX6_who_51 : decode cX6_who 51 = .ok (.iload_n 3, 1) := by decide +kernel
theorem dX6_who_52 : decode cX6_who 52 = .ok (.ifCond .lt 20, 3) := by decide +kernel
theorem dX6_who_55 : decode cX6_who 55 = .ok (.iload_n 3, 1) := by decide +kernel
theorem dX6_who_56 : decode cX6_who 56 = .ok (.i2l, 1) := by decide +kernel
theorem dX6_who_57 : decode cX6_who 57 = .ok (.iload 4, 2) := by decide +kernel
theorem dX6_who_59 : decode cX6_who 59 = .ok (.i2l, 1) := by decide +kernel
theorem dX6_who_60 : decode cX6_who 60 = .ok (.ladd, 1) := by decide +kernel
theorem dX6_who_61 : decode cX6_who 61 = .ok (.aload_n 0, 1) := by decide +kernel
theorem dX6_who_62 : decode cX6_who 62 = .ok (.getfield 13, 3) := by decide +kernel
theorem dX6_who_65 : decode cX6_who 65 = .ok (.iload_n 2, 1) := by decide +kernel
theorem dX6_who_66 : decode cX6_who 66 = .ok (.iaload, 1) := by decide +kernel
theorem dX6_who_67 : decode cX6_who 67 = .ok (.i2l, 1) := by decide +kernel
theorem dX6_who_68 : decode cX6_who 68 = .ok (.lcmp, 1) := by decide +kernel
theorem dX6_who_69 : decode cX6_who 69 = .ok (.ifCond .le 9, 3) := by decide +kernel
theorem dX6_who_72 : decode cX6_who 72 = .ok (.aload_n 0, 1) := by decide +kernel
theorem dX6_who_73 : decode cX6_who 73 = .ok (.iconst 2, 1) := by decide +kernel
theorem dX6_who_74 : decode cX6_who 74 = .ok (.invokevirtual 75, 3) := by decide +kernel
theorem dX6_who_77 : decode cX6_who 77 = .ok (.ireturn, 1) := by decide +kernel
theorem dX6_who_78 : decode cX6_who 78 = .ok (.aload_n 0, 1) := by decide +kernel
theorem dX6_who_79 : decode cX6_who 79 = .ok (.iconst 0, 1) := by decide +kernel
theorem dX6_who_80 : decode cX6_who 80 = .ok (.putfield 58, 3) := by decide +kernel
theorem dX6_who_83 : decode cX6_who 83 = .ok (.iconst 0, 1) := by decide +kernel
theorem dX6_who_84 : decode cX6_who 84 = .ok (.istore 5, 2) := by decide +kernel
theorem dX6_who_86 : decode cX6_who 86 = .ok (.iconst 1, 1) := by decide +kernel
theorem dX6_who_87 : decode cX6_who 87 = .ok (.istore 6, 2) := by decide +kernel
theorem dX6_who_89 : decode cX6_who 89 = .ok (.iload 6, 2) := by decide +kernel
theorem dX6_who_91 : decode cX6_who 91 = .ok (.iconst 5, 1) := by decide +kernel
theorem dX6_who_92 : decode cX6_who 92 = .ok (.if_icmp .gt 57, 3) := by decide +kernel
theorem dX6_who_95 : decode cX6_who 95 = .ok (.aload_n 0, 1) := by decide +kernel
theorem dX6_who_96 : decode cX6_who 96 = .ok (.invokevirtual 212, 3) := by decide +kernel
theorem dX6_who_99 : decode cX6_who 99 = .ok (.aload_n 0, 1) := by decide +kernel
theorem dX6_who_100 : decode cX6_who 100 = .ok (.getfield 25, 3) := by decide +kernel
theorem dX6_who_103 : decode cX6_who 103 = .ok (.bipush 16, 2) := by decide +kernel
theorem dX6_who_105 : decode cX6_who 105 = .ok (.bipush 8, 2) := by decide +kernel
theorem dX6_who_107 : decode cX6_who 107 = .ok (.iload_n 1, 1) := by decide +kernel
theorem dX6_who_108 : decode cX6_who 108 = .ok (.imul, 1) := by decide +kernel
theorem dX6_who_109 : decode cX6_who 109 = .ok (.iadd, 1) := by decide +kernel
theorem dX6_who_110 : decode cX6_who 110 = .ok (.iconst 0, 1) := by decide +kernel
theorem dX6_who_111 : decode cX6_who 111 = .ok (.iadd, 1) := by decide +kernel
theorem dX6_who_112 : decode cX6_who 112 = .ok (.iload 6, 2) := by decide +kernel
theorem dX6_who_114 : decode cX6_who 114 = .ok (.iastore, 1) := by decide +kernel
theorem dX6_who_115 : decode cX6_who 115 = .ok (.iload 5, 2) := by decide +kernel
theorem dX6_who_117 : decode cX6_who 117 = .ok (.aload_n 0, 1) := by decide +kernel
theorem dX6_who_118 : decode cX6_who 118 = .ok (.bipush 40, 2) := by decide +kernel
theorem dX6_who_120 : decode cX6_who 120 = .ok (.iload_n 2, 1) := by decide +kernel
theorem dX6_who_121 : decode cX6_who 121 = .ok (.imul, 1) := by decide +kernel
theorem dX6_who_122 : decode cX6_who 122 = .ok (.iload_n 3, 1) := by decide +kernel
theorem dX6_who_123 : decode cX6_who 123 = .ok (.iadd, 1) := by decide +kernel
theorem dX6_who_124 : decode cX6_who 124 = .ok (.iload 4, 2) := by decide +kernel
theorem dX6_who_126 : decode cX6_who 126 = .ok (.invokevirtual 223, 3) := by decide +kernel
theorem dX6_who_129 : decode cX6_who 129 = .ok (.ifCond .eq 10, 3) := by decide +kernel
theorem dX6_who_132 : decode cX6_who 132 = .ok (.iconst 1, 1) := by decide +kernel
theorem dX6_who_133 : decode cX6_who 133 = .ok (.iload 6, 2) := by decide +kernel
theorem dX6_who_135 : decode cX6_who 135 = .ok (.ishl, 1) := by decide +kernel
theorem dX6_who_136 : decode cX6_who 136 = .ok (.goto 4, 3) := by decide +kernel
theorem dX6_who_139 : decode cX6_who 139 = .ok (.iconst 0, 1) := by decide +kernel
theorem dX6_who_140 : decode cX6_who 140 = .ok (.ior, 1) := by decide +kernel
theorem dX6_who_141 : decode cX6_who 141 = .ok (.istore 5, 2) := by decide +kernel
theorem dX6_who_143 : decode cX6_who 143 = .ok (.iinc 6 1, 3) := by decide +kernel
theorem dX6_who_146 : decode cX6_who 146 = .ok (.goto (-57), 3) := by decide +kernel
theorem dX6_who_149 : decode cX6_who 149 = .ok (.iload 5, 2) := by decide +kernel
theorem dX6_who_151 : decode cX6_who 151 = .ok (.ireturn, 1) := by decide +kernel
theorem dX6_soNow_0 : decode cX6_soNow 0 = .ok (.ldc2_w 227, 3) := by decide +kernel
theorem dX6_soNow_3 : decode cX6_soNow 3 = .ok (.aload_n 0, 1) := by decide +kernel
theorem dX6_soNow_4 : decode cX6_soNow 4 = .ok (.getfield 25, 3) := by decide +kernel
theorem dX6_soNow_7 : decode cX6_soNow 7 = .ok (.iconst 1, 1) := by decide +kernel
theorem dX6_soNow_8 : decode cX6_soNow 8 = .ok (.iaload, 1) := by decide +kernel
theorem dX6_soNow_9 : decode cX6_soNow 9 = .ok (.i2l, 1) := by decide +kernel
theorem dX6_soNow_10 : decode cX6_soNow 10 = .ok (.lmul, 1) := by decide +kernel
theorem dX6_soNow_11 : decode cX6_soNow 11 = .ok (.aload_n 0, 1) := by decide +kernel
theorem dX6_soNow_12 : decode cX6_soNow 12 = .ok (.getfield 25, 3) := by decide +kernel
theorem dX6_soNow_15 : decode cX6_soNow 15 = .ok (.bipush 6, 2) := by decide +kernel
theorem dX6_soNow_17 : decode cX6_soNow 17 = .ok (.iaload, 1) := by decide +kernel
theorem dX6_soNow_18 : decode cX6_soNow 18 = .ok (.bipush 6, 2) := by decide +kernel
theorem dX6_soNow_20 : decode cX6_soNow 20 = .ok (.irem, 1) := by decide +kernel
theorem dX6_soNow_21 : decode cX6_soNow 21 = .ok (.i2l, 1) := by decide +kernel
theorem dX6_soNow_22 : decode cX6_soNow 22 = .ok (.ladd, 1) := by decide +kernel
theorem dX6_soNow_23 : decode cX6_soNow 23 = .ok (.lstore_n 1, 1) := by decide +kernel
theorem dX6_soNow_24 : decode cX6_soNow 24 = .ok (.iconst 0, 1) := by decide +kernel
theorem dX6_soNow_25 : decode cX6_soNow 25 = .ok (.istore_n 3, 1) := by decide +kernel
theorem dX6_soNow_26 : decode cX6_soNow 26 = .ok (.iload_n 3, 1) := by decide +kernel
theorem dX6_soNow_27 : decode cX6_soNow 27 = .ok (.aload_n 0, 1) := by decide +kernel
theorem dX6_soNow_28 : decode cX6_soNow 28 = .ok (.getfield 25, 3) := by decide +kernel
theorem dX6_soNow_31 : decode cX6_soNow 31 = .ok (.iconst 5, 1) := by decide +kernel
theorem dX6_soNow_32 : decode cX6_soNow 32 = .ok (.iaload, 1) := by decide +kernel
theorem dX6_soNow_33 : decode cX6_soNow 33 = .ok (.if_icmp .ge 27, 3) := by decide +kernel
theorem dX6_soNow_36 : decode cX6_soNow 36 = .ok (.ldc2_w 229, 3) := by decide +kernel
theorem dX6_soNow_39 : decode cX6_soNow 39 = .ok (.lload_n 1, 1) := by decide +kernel
theorem dX6_soNow_40 : decode cX6_soNow 40 = .ok (.lmul, 1) := by decide +kernel
theorem dX6_soNow_41 : decode cX6_soNow 41 = .ok (.aload_n 0, 1) := by decide +kernel
theorem dX6_soNow_42 : decode cX6_soNow 42 = .ok (.getfield 25, 3) := by decide +kernel
theorem dX6_soNow_45 : decode cX6_soNow 45 = .ok (.iload_n 3, 1) := by decide +kernel
theorem dX6_soNow_46 : decode cX6_soNow 46 = .ok (.bipush 6, 2) := by decide +kernel
theorem dX6_soNow_48 : decode cX6_soNow 48 = .ok (.invokestatic 159, 3) := by decide +kernel
theorem dX6_soNow_51 : decode cX6_soNow 51 = .ok (.i2l, 1) := by decide +kernel
theorem dX6_soNow_52 : decode cX6_soNow 52 = .ok (.ladd, 1) := by decide +kernel
theorem dX6_soNow_53 : decode cX6_soNow 53 = .ok (.lstore_n 1, 1) := by decide +kernel
theorem dX6_soNow_54 : decode cX6_soNow 54 = .ok (.iinc 3 1, 3) := by decide +kernel
theorem dX6_soNow_57 : decode cX6_soNow 57 = .ok (.goto (-31), 3) := by decide +kernel
theorem dX6_soNow_60 : decode cX6_soNow 60 = .ok (.lload_n 1, 1) := by decide +kernel
theorem dX6_soNow_61 : decode cX6_soNow 61 = .ok (.lreturn, 1) := by decide +kernel
theorem dX6_round_0 : decode cX6_round 0 = .ok (.aload_n 0, 1) := by decide +kernel
theorem dX6_round_1 : decode cX6_round 1 = .ok (.iconst 0, 1) := by decide +kernel
theorem dX6_round_2 : decode cX6_round 2 = .ok (.putfield 54, 3) := by decide +kernel
theorem dX6_round_5 : decode cX6_round 5 = .ok (.aload_n 0, 1) := by decide +kernel
theorem dX6_round_6 : decode cX6_round 6 = .ok (.invokevirtual 193, 3) := by decide +kernel
theorem dX6_round_9 : decode cX6_round 9 = .ok (.ifCond .ne 6, 3) := by decide +kernel
theorem dX6_round_12 : decode cX6_round 12 = .ok (.ldc 196, 2) := by decide +kernel
theorem dX6_round_14 : decode cX6_round 14 = .ok (.ireturn, 1) := by decide +kernel
theorem dX6_round_15 : decode cX6_round 15 = .ok (.iload_n 1, 1) := by decide +kernel
theorem dX6_round_16 : decode cX6_round 16 = .ok (.i2l, 1) := by decide +kernel
theorem dX6_round_17 : decode cX6_round 17 = .ok (.lconst 0, 1) := by decide +kernel
theorem dX6_round_18 : decode cX6_round 18 = .ok (.lconst 1, 1) := by decide +kernel
theorem dX6_round_19 : decode cX6_round 19 = .ok (.invokestatic 64, 3) := by decide +kernel
theorem dX6_round_22 : decode cX6_round 22 = .ok (.ifCond .ne 6, 3) := by decide +kernel
theorem dX6_round_25 : decode cX6_round 25 = .ok (.ldc 74, 2) := by decide +kernel
theorem dX6_round_27 : decode cX6_round 27 = .ok (.ireturn, 1) := by decide +kernel
theorem dX6_round_28 : decode cX6_round 28 = .ok (.aload_n 0, 1) := by decide +kernel
theorem dX6_round_29 : decode cX6_round 29 = .ok (.invokevirtual 212, 3) := by decide +kernel
theorem dX6_round_32 : decode cX6_round 32 = .ok (.iconst 0, 1) := by decide +kernel
theorem dX6_round_33 : decode cX6_round 33 = .ok (.istore_n 2, 1) := by decide +kernel
theorem dX6_round_34 : decode cX6_round 34 = .ok (.iload_n 2, 1) := by decide +kernel
theorem dX6_round_35 : decode cX6_round 35 = .ok (.bipush 101, 2) := by decide +kernel
theorem dX6_round_37 : decode cX6_round 37 = .ok (.if_icmp .ge 68, 3) := by decide +kernel
theorem dX6_round_40 : decode cX6_round 40 = .ok (.aload_n 0, 1) := by decide +kernel
theorem dX6_round_41 : decode cX6_round 41 = .ok (.getfield 40, 3) := by decide +kernel
theorem dX6_round_44 : decode cX6_round 44 = .ok (.iload_n 2, 1) := by decide +kernel
theorem dX6_round_45 : decode cX6_round 45 = .ok (.aload_n 0, 1) := by decide +kernel
theorem dX6_round_46 : decode cX6_round 46 = .ok (.invokevirtual 231, 3) := by decide +kernel
theorem dX6_round_49 : decode cX6_round 49 = .ok (.lastore, 1) := by decide +kernel
theorem dX6_round_50 : decode cX6_round 50 = .ok (.iconst 0, 1) := by decide +kernel
theorem dX6_round_51 : decode cX6_round 51 = .ok (.istore_n 3, 1) := by decide +kernel
theorem dX6_round_52 : decode cX6_round 52 = .ok (.iload_n 3, 1) := by decide +kernel
theorem dX6_round_53 : decode cX6_round 53 = .ok (.iload_n 2, 1) := by decide +kernel
theorem dX6_round_54 : decode cX6_round 54 = .ok (.if_icmp .ge 35, 3) := by decide +kernel
theorem dX6_round_57 : decode cX6_round 57 = .ok (.aload_n 0, 1) := by decide +kernel
theorem dX6_round_58 : decode cX6_round 58 = .ok (.getfield 40, 3) := by decide +kernel
theorem dX6_round_61 : decode cX6_round 61 = .ok (.iload_n 3, 1) := by decide +kernel
theorem dX6_round_62 : decode cX6_round 62 = .ok (.laload, 1) := by decide +kernel
theorem dX6_round_63 : decode cX6_round 63 = .ok (.aload_n 0, 1) := by decide +kernel
theorem dX6_round_64 : decode cX6_round 64 = .ok (.getfield 40, 3) := by decide +kernel
theorem dX6_round_67 : decode cX6_round 67 = .ok (.iload_n 2, 1) := by decide +kernel
theorem dX6_round_68 : decode cX6_round 68 = .ok (.laload, 1) := by decide +kernel
theorem dX6_round_69 : decode cX6_round 69 = .ok (.lcmp, 1) := by decide +kernel
theorem dX6_round_70 : decode cX6_round 70 = .ok (.ifCond .ne 13, 3) := by decide +kernel
theorem dX6_round_73 : decode cX6_round 73 = .ok (.iload_n 1, 1) := by decide +kernel
theorem dX6_round_74 : decode cX6_round 74 = .ok (.ifCond .ne 7, 3) := by decide +kernel
theorem dX6_round_77 : decode cX6_round 77 = .ok (.iload_n 2, 1) := by decide +kernel
theorem dX6_round_78 : decode cX6_round 78 = .ok (.goto 4, 3) := by decide +kernel
theorem dX6_round_81 : decode cX6_round 81 = .ok (.iload_n 3, 1) := by decide +kernel
theorem dX6_round_82 : decode cX6_round 82 = .ok (.ireturn, 1) := by decide +kernel
theorem dX6_round_83 : decode cX6_round 83 = .ok (.iinc 3 1, 3) := by decide +kernel
theorem dX6_round_86 : decode cX6_round 86 = .ok (.goto (-34), 3) := by decide +kernel
theorem dX6_round_89 : decode cX6_round 89 = .ok (.aload_n 0, 1) := by decide +kernel
theorem dX6_round_90 : decode cX6_round 90 = .ok (.aload_n 0, 1) := by decide +kernel
theorem dX6_round_91 : decode cX6_round 91 = .ok (.getfield 25, 3) := by decide +kernel
theorem dX6_round_94 : decode cX6_round 94 = .ok (.iconst 0, 1) := by decide +kernel
theorem dX6_round_95 : decode cX6_round 95 = .ok (.iconst 0, 1) := by decide +kernel
theorem dX6_round_96 : decode cX6_round 96 = .ok (.invokevirtual 185, 3) := by decide +kernel
theorem dX6_round_99 : decode cX6_round 99 = .ok (.iinc 2 1, 3) := by decide +kernel
theorem dX6_round_102 : decode cX6_round 102 = .ok (.goto (-68), 3) := by decide +kernel
theorem dX6_round_105 : decode cX6_round 105 = .ok (.ldc 97, 2) := by decide +kernel
theorem dX6_round_107 : decode cX6_round 107 = .ok (.ireturn, 1) := by decide +kernel
theorem dX6_half_0 : decode cX6_half 0 = .ok (.aload_n 0, 1) := by decide +kernel
theorem dX6_half_1 : decode cX6_half 1 = .ok (.iconst 0, 1) := by decide +kernel
theorem dX6_half_2 : decode cX6_half 2 = .ok (.putfield 54, 3) := by decide +kernel
theorem dX6_half_5 : decode cX6_half 5 = .ok (.aload_n 0, 1) := by decide +kernel
theorem dX6_half_6 : decode cX6_half 6 = .ok (.invokevirtual 193, 3) := by decide +kernel
theorem dX6_half_9 : decode cX6_half 9 = .ok (.ifCond .ne 6, 3) := by decide +kernel
theorem dX6_half_12 : decode cX6_half 12 = .ok (.ldc 196, 2) := by decide +kernel
theorem dX6_half_14 : decode cX6_half 14 = .ok (.ireturn, 1) := by decide +kernel
theorem dX6_half_15 : decode cX6_half 15 = .ok (.iload_n 1, 1) := by decide +kernel
theorem dX6_half_16 : decode cX6_half 16 = .ok (.i2l, 1) := by decide +kernel
theorem dX6_half_17 : decode cX6_half 17 = .ok (.lconst 1, 1) := by decide +kernel
theorem dX6_half_18 : decode cX6_half 18 = .ok (.ldc2_w 210, 3) := by decide +kernel
theorem dX6_half_21 : decode cX6_half 21 = .ok (.invokestatic 64, 3) := by decide +kernel
theorem dX6_half_24 : decode cX6_half 24 = .ok (.ifCond .ne 6, 3) := by decide +kernel
theorem dX6_half_27 : decode cX6_half 27 = .ok (.ldc 74, 2) := by decide +kernel
theorem dX6_half_29 : decode cX6_half 29 = .ok (.ireturn, 1) := by decide +kernel
theorem dX6_half_30 : decode cX6_half 30 = .ok (.aload_n 0, 1) := by decide +kernel
theorem dX6_half_31 : decode cX6_half 31 = .ok (.invokevirtual 212, 3) := by decide +kernel
theorem dX6_half_34 : decode cX6_half 34 = .ok (.iconst 0, 1) := by decide +kernel
theorem dX6_half_35 : decode cX6_half 35 = .ok (.istore_n 2, 1) := by decide +kernel
theorem dX6_half_36 : decode cX6_half 36 = .ok (.iload_n 2, 1) := by decide +kernel
theorem dX6_half_37 : decode cX6_half 37 = .ok (.iload_n 1, 1) := by decide +kernel
theorem dX6_half_38 : decode cX6_half 38 = .ok (.if_icmp .ge 40, 3) := by decide +kernel
theorem dX6_half_41 : decode cX6_half 41 = .ok (.aload_n 0, 1) := by decide +kernel
theorem dX6_half_42 : decode cX6_half 42 = .ok (.getfield 25, 3) := by decide +kernel
theorem dX6_half_45 : decode cX6_half 45 = .ok (.bipush 8, 2) := by decide +kernel
theorem dX6_half_47 : decode cX6_half 47 = .ok (.iaload, 1) := by decide +kernel
theorem dX6_half_48 : decode cX6_half 48 = .ok (.istore_n 3, 1) := by decide +kernel
theorem dX6_half_49 : decode cX6_half 49 = .ok (.aload_n 0, 1) := by decide +kernel
theorem dX6_half_50 : decode cX6_half 50 = .ok (.aload_n 0, 1) := by decide +kernel
theorem dX6_half_51 : decode cX6_half 51 = .ok (.getfield 25, 3) := by decide +kernel
theorem dX6_half_54 : decode cX6_half 54 = .ok (.iconst 0, 1) := by decide +kernel
theorem dX6_half_55 : decode cX6_half 55 = .ok (.iconst 0, 1) := by decide +kernel
theorem dX6_half_56 : decode cX6_half 56 = .ok (.invokevirtual 185, 3) := by decide +kernel
theorem dX6_half_59 : decode cX6_half 59 = .ok (.aload_n 0, 1) := by decide +kernel
theorem dX6_half_60 : decode cX6_half 60 = .ok (.getfield 25, 3) := by decide +kernel
theorem dX6_half_63 : decode cX6_half 63 = .ok (.bipush 8, 2) := by decide +kernel
theorem dX6_half_65 : decode cX6_half 65 = .ok (.iaload, 1) := by decide +kernel
theorem dX6_half_66 : decode cX6_half 66 = .ok (.iload_n 3, 1) := by decide +kernel
theorem dX6_half_67 : decode cX6_half 67 = .ok (.if_icmp .le 5, 3) := by decide +kernel
theorem dX6_half_70 : decode cX6_half 70 = .ok (.iload_n 2, 1) := by decide +kernel
theorem dX6_half_71 : decode cX6_half 71 = .ok (.ireturn, 1) := by decide +kernel
theorem dX6_half_72 : decode cX6_half 72 = .ok (.iinc 2 1, 3) := by decide +kernel
theorem dX6_half_75 : decode cX6_half 75 = .ok (.goto (-39), 3) := by decide +kernel
theorem dX6_half_78 : decode cX6_half 78 = .ok (.ldc 97, 2) := by decide +kernel
theorem dX6_half_80 : decode cX6_half 80 = .ok (.ireturn, 1) := by decide +kernel
theorem dX6_awake_0 : decode cX6_awake 0 = .ok (.aload_n 0, 1) := by decide +kernel
theorem dX6_awake_1 : decode cX6_awake 1 = .ok (.iconst 0, 1) := by decide +kernel
theorem dX6_awake_2 : decode cX6_awake 2 = .ok (.putfield 54, 3) := by decide +kernel
theorem dX6_awake_5 : decode cX6_awake 5 = .ok (.aload_n 0, 1) := by decide +kernel
theorem dX6_awake_6 : decode cX6_awake 6 = .ok (.invokevirtual 193, 3) := by decide +kernel
theorem dX6_awake_9 : decode cX6_awake 9 = .ok (.ifCond .ne 7, 3) := by decide +kernel
theorem dX6_awake_12 : decode cX6_awake 12 = .ok (.ldc2_w 235, 3) := by decide +kernel
theorem dX6_awake_15 : decode cX6_awake 15 = .ok (.lreturn, 1) := by decide +kernel
theorem dX6_awake_16 : decode cX6_awake 16 = .ok (.iload_n 1, 1) := by decide +kernel
theorem dX6_awake_17 : decode cX6_awake 17 = .ok (.i2l, 1) := by decide +kernel
theorem dX6_awake_18 : decode cX6_awake 18 = .ok (.lconst 0, 1) := by decide +kernel
theorem dX6_awake_19 : decode cX6_awake 19 = .ok (.ldc2_w 237, 3) := by decide +kernel
theorem dX6_awake_22 : decode cX6_awake 22 = .ok (.invokestatic 64, 3) := by decide +kernel
theorem dX6_awake_25 : decode cX6_awake 25 = .ok (.ifCond .eq 13, 3) := by decide +kernel
theorem dX6_awake_28 : decode cX6_awake 28 = .ok (.iload_n 2, 1) := by decide +kernel
theorem dX6_awake_29 : decode cX6_awake 29 = .ok (.i2l, 1) := by decide +kernel
theorem dX6_awake_30 : decode cX6_awake 30 = .ok (.lconst 0, 1) := by decide +kernel
theorem dX6_awake_31 : decode cX6_awake 31 = .ok (.lconst 1, 1) := by decide +kernel
theorem dX6_awake_32 : decode cX6_awake 32 = .ok (.invokestatic 64, 3) := by decide +kernel
theorem dX6_awake_35 : decode cX6_awake 35 = .ok (.ifCond .ne 7, 3) := by decide +kernel
theorem dX6_awake_38 : decode cX6_awake 38 = .ok (.ldc2_w 239, 3) := by decide +kernel
theorem dX6_awake_41 : decode cX6_awake 41 = .ok (.lreturn, 1) := by decide +kernel
theorem dX6_awake_42 : decode cX6_awake 42 = .ok (.iconst 0, 1) := by decide +kernel
theorem dX6_awake_43 : decode cX6_awake 43 = .ok (.istore_n 3, 1) := by decide +kernel
theorem dX6_awake_44 : decode cX6_awake 44 = .ok (.iconst 0, 1) := by decide +kernel
theorem dX6_awake_45 : decode cX6_awake 45 = .ok (.istore 4, 2) := by decide +kernel
theorem dX6_awake_47 : decode cX6_awake 47 = .ok (.iload 4, 2) := by decide +kernel
theorem dX6_awake_49 : decode cX6_awake 49 = .ok (.aload_n 0, 1) := by decide +kernel
theorem dX6_awake_50 : decode cX6_awake 50 = .ok (.getfield 19, 3) := by decide +kernel
theorem dX6_awake_53 : decode cX6_awake 53 = .ok (.iconst 5, 1) := by decide +kernel
theorem dX6_awake_54 : decode cX6_awake 54 = .ok (.iaload, 1) := by decide +kernel
theorem dX6_awake_55 : decode cX6_awake 55 = .ok (.if_icmp .ge 32, 3) := by decide +kernel
theorem dX6_awake_58 : decode cX6_awake 58 = .ok (.iload_n 3, 1) := by decide +kernel
theorem dX6_awake_59 : decode cX6_awake 59 = .ok (.aload_n 0, 1) := by decide +kernel
theorem dX6_awake_60 : decode cX6_awake 60 = .ok (.getfield 19, 3) := by decide +kernel
theorem dX6_awake_63 : decode cX6_awake 63 = .ok (.iload 4, 2) := by decide +kernel
theorem dX6_awake_65 : decode cX6_awake 65 = .ok (.invokestatic 169, 3) := by decide +kernel
theorem dX6_awake_68 : decode cX6_awake 68 = .ok (.ifCond .eq 10, 3) := by decide +kernel
theorem dX6_awake_71 : decode cX6_awake 71 = .ok (.iconst 1, 1) := by decide +kernel
theorem dX6_awake_72 : decode cX6_awake 72 = .ok (.iload 4, 2) := by decide +kernel
theorem dX6_awake_74 : decode cX6_awake 74 = .ok (.ishl, 1) := by decide +kernel
theorem dX6_awake_75 : decode cX6_awake 75 = .ok (.goto 4, 3) := by decide +kernel
theorem dX6_awake_78 : decode cX6_awake 78 = .ok (.iconst 0, 1) := by decide +kernel
theorem dX6_awake_79 : decode cX6_awake 79 = .ok (.ior, 1) := by decide +kernel
theorem dX6_awake_80 : decode cX6_awake 80 = .ok (.istore_n 3, 1) := by decide +kernel
theorem dX6_awake_81 : decode cX6_awake 81 = .ok (.iinc 4 1, 3) := by decide +kernel
theorem dX6_awake_84 : decode cX6_awake 84 = .ok (.goto (-37), 3) := by decide +kernel
theorem dX6_awake_87 : decode cX6_awake 87 = .ok (.lconst 0, 1) := by decide +kernel
theorem dX6_awake_88 : decode cX6_awake 88 = .ok (.lstore 4, 2) := by decide +kernel
theorem dX6_awake_90 : decode cX6_awake 90 = .ok (.lconst 0, 1) := by decide +kernel
theorem dX6_awake_91 : decode cX6_awake 91 = .ok (.lstore 6, 2) := by decide +kernel
theorem dX6_awake_93 : decode cX6_awake 93 = .ok (.iconst 0, 1) := by decide +kernel
theorem dX6_awake_94 : decode cX6_awake 94 = .ok (.istore 8, 2) := by decide +kernel
theorem dX6_awake_96 : decode cX6_awake 96 = .ok (.iload 8, 2) := by decide +kernel
theorem dX6_awake_98 : decode cX6_awake 98 = .ok (.bipush 64, 2) := by decide +kernel
theorem dX6_awake_100 : decode cX6_awake 100 = .ok (.if_icmp .ge 135, 3) := by decide +kernel
theorem dX6_awake_103 : decode cX6_awake 103 = .ok (.iload 8, 2) := by decide +kernel
theorem dX6_awake_105 : decode cX6_awake 105 = .ok (.iload_n 3, 1) := by decide +kernel
theorem dX6_awake_106 : decode cX6_awake 106 = .ok (.iconst (-1), 1) := by decide +kernel
theorem dX6_awake_107 : decode cX6_awake 107 = .ok (.ixor, 1) := by decide +kernel
theorem dX6_awake_108 : decode cX6_awake 108 = .ok (.iand, 1) := by decide +kernel
theorem dX6_awake_109 : decode cX6_awake 109 = .ok (.ifCond .ne 120, 3) := by decide +kernel
theorem dX6_awake_112 : decode cX6_awake 112 = .ok (.lconst 1, 1) := by decide +kernel
theorem dX6_awake_113 : decode cX6_awake 113 = .ok (.lstore 9, 2) := by decide +kernel
theorem dX6_awake_115 : decode cX6_awake 115 = .ok (.iconst 0, 1) := by decide +kernel
theorem dX6_awake_116 : decode cX6_awake 116 = .ok (.istore 11, 2) := by decide +kernel
theorem dX6_awake_118 : decode cX6_awake 118 = .ok (.iload 11, 2) := by decide +kernel
theorem dX6_awake_120 : decode cX6_awake 120 = .ok (.bipush 6, 2) := by decide +kernel
theorem dX6_awake_122 : decode cX6_awake 122 = .ok (.if_icmp .ge 49, 3) := by decide +kernel
theorem dX6_awake_125 : decode cX6_awake 125 = .ok (.lload 9, 2) := by decide +kernel
theorem dX6_awake_127 : decode cX6_awake 127 = .ok (.iload_n 3, 1) := by decide +kernel
theorem dX6_awake_128 : decode cX6_awake 128 = .ok (.iload 11, 2) := by decide +kernel
theorem dX6_awake_130 : decode cX6_awake 130 = .ok (.ishr, 1) := by decide +kernel
theorem dX6_awake_131 : decode cX6_awake 131 = .ok (.iconst 1, 1) := by decide +kernel
theorem dX6_awake_132 : decode cX6_awake 132 = .ok (.iand, 1) := by decide +kernel
theorem dX6_awake_133 : decode cX6_awake 133 = .ok (.ifCond .ne 7, 3) := by decide +kernel
theorem dX6_awake_136 : decode cX6_awake 136 = .ok (.lconst 1, 1) := by decide +kernel
theorem dX6_awake_137 : decode cX6_awake 137 = .ok (.goto 25, 3) := by decide +kernel
theorem dX6_awake_140 : decode cX6_awake 140 = .ok (.iload 8, 2) := by decide +kernel
theorem dX6_awake_142 : decode cX6_awake 142 = .ok (.iload 11, 2) := by decide +kernel
theorem dX6_awake_144 : decode cX6_awake 144 = .ok (.ishr, 1) := by decide +kernel
theorem dX6_awake_145 : decode cX6_awake 145 = .ok (.iconst 1, 1) := by decide +kernel
theorem dX6_awake_146 : decode cX6_awake 146 = .ok (.iand, 1) := by decide +kernel
theorem dX6_awake_147 : decode cX6_awake 147 = .ok (.iconst 1, 1) := by decide +kernel
theorem dX6_awake_148 : decode cX6_awake 148 = .ok (.if_icmp .ne 8, 3) := by decide +kernel
theorem dX6_awake_151 : decode cX6_awake 151 = .ok (.iload_n 1, 1) := by decide +kernel
theorem dX6_awake_152 : decode cX6_awake 152 = .ok (.i2l, 1) := by decide +kernel
theorem dX6_awake_153 : decode cX6_awake 153 = .ok (.goto 9, 3) := by decide +kernel
theorem dX6_awake_156 : decode cX6_awake 156 = .ok (.ldc2_w 237, 3) := by decide +kernel
theorem dX6_awake_159 : decode cX6_awake 159 = .ok (.iload_n 1, 1) := by decide +kernel
theorem dX6_awake_160 : decode cX6_awake 160 = .ok (.i2l, 1) := by decide +kernel
theorem dX6_awake_161 : decode cX6_awake 161 = .ok (.lsub, 1) := by decide +kernel
theorem dX6_awake_162 : decode cX6_awake 162 = .ok (.lmul, 1) := by decide +kernel
theorem dX6_awake_163 : decode cX6_awake 163 = .ok (.lstore 9, 2) := by decide +kernel
theorem dX6_awake_165 : decode cX6_awake 165 = .ok (.iinc 11 1, 3) := by decide +kernel
theorem dX6_awake_168 : decode cX6_awake 168 = .ok (.goto (-50), 3) := by decide +kernel
theorem dX6_awake_171 : decode cX6_awake 171 = .ok (.aload_n 0, 1) := by decide +kernel
theorem dX6_awake_172 : decode cX6_awake 172 = .ok (.aload_n 0, 1) := by decide +kernel
theorem dX6_awake_173 : decode cX6_awake 173 = .ok (.getfield 19, 3) := by decide +kernel
theorem dX6_awake_176 : decode cX6_awake 176 = .ok (.iload 8, 2) := by decide +kernel
theorem dX6_awake_178 : decode cX6_awake 178 = .ok (.iconst 0, 1) := by decide +kernel
theorem dX6_awake_179 : decode cX6_awake 179 = .ok (.iconst 0, 1) := by decide +kernel
theorem dX6_awake_180 : decode cX6_awake 180 = .ok (.invokevirtual 177, 3) := by decide +kernel
theorem dX6_awake_183 : decode cX6_awake 183 = .ok (.aload_n 0, 1) := by decide +kernel
theorem dX6_awake_184 : decode cX6_awake 184 = .ok (.aload_n 0, 1) := by decide +kernel
theorem dX6_awake_185 : decode cX6_awake 185 = .ok (.getfield 19, 3) := by decide +kernel
theorem dX6_awake_188 : decode cX6_awake 188 = .ok (.invokevirtual 181, 3) := by decide +kernel
theorem dX6_awake_191 : decode cX6_awake 191 = .ok (.istore 11, 2) := by decide +kernel
theorem dX6_awake_193 : decode cX6_awake 193 = .ok (.lload 6, 2) := by decide +kernel
theorem dX6_awake_195 : decode cX6_awake 195 = .ok (.lload 9, 2) := by decide +kernel
theorem dX6_awake_197 : decode cX6_awake 197 = .ok (.ladd, 1) := by decide +kernel
theorem dX6_awake_198 : decode cX6_awake 198 = .ok (.lstore 6, 2) := by decide +kernel
theorem dX6_awake_200 : decode cX6_awake 200 = .ok (.lload 4, 2) := by decide +kernel
theorem dX6_awake_202 : decode cX6_awake 202 = .ok (.iload 11, 2) := by decide +kernel
theorem dX6_awake_204 : decode cX6_awake 204 = .ok (.ldc 97, 2) := by decide +kernel
theorem dX6_awake_206 : decode cX6_awake 206 = .ok (.if_icmp .eq 14, 3) := by decide +kernel
theorem dX6_awake_209 : decode cX6_awake 209 = .ok (.iload 11, 2) := by decide +kernel
theorem dX6_awake_211 : decode cX6_awake 211 = .ok (.aload_n 0, 1) := by decide +kernel
theorem dX6_awake_212 : decode cX6_awake 212 = .ok (.getfield 19, 3) := by decide +kernel
theorem dX6_awake_215 : decode cX6_awake 215 = .ok (.iconst 1, 1) := by decide +kernel
theorem dX6_awake_216 : decode cX6_awake 216 = .ok (.iaload, 1) := by decide +kernel
theorem dX6_awake_217 : decode cX6_awake 217 = .ok (.if_icmp .ne 7, 3) := by decide +kernel
theorem dX6_awake_220 : decode cX6_awake 220 = .ok (.lconst 0, 1) := by decide +kernel
theorem dX6_awake_221 : decode cX6_awake 221 = .ok (.goto 5, 3) := by decide +kernel
theorem dX6_awake_224 : decode cX6_awake 224 = .ok (.lload 9, 2) := by decide +kernel
theorem dX6_awake_226 : decode cX6_awake 226 = .ok (.ladd, 1) := by decide +kernel
theorem dX6_awake_227 : decode cX6_awake 227 = .ok (.lstore 4, 2) := by decide +kernel
theorem dX6_awake_229 : decode cX6_awake 229 = .ok (.iinc 8 1, 3) := by decide +kernel
theorem dX6_awake_232 : decode cX6_awake 232 = .ok (.goto (-136), 3) := by decide +kernel
theorem dX6_awake_235 : decode cX6_awake 235 = .ok (.lload 4, 2) := by decide +kernel
theorem dX6_awake_237 : decode cX6_awake 237 = .ok (.lstore 8, 2) := by decide +kernel
theorem dX6_awake_239 : decode cX6_awake 239 = .ok (.lload 6, 2) := by decide +kernel
theorem dX6_awake_241 : decode cX6_awake 241 = .ok (.lstore 10, 2) := by decide +kernel
theorem dX6_awake_243 : decode cX6_awake 243 = .ok (.lload 10, 2) := by decide +kernel
theorem dX6_awake_245 : decode cX6_awake 245 = .ok (.lconst 0, 1) := by decide +kernel
theorem dX6_awake_246 : decode cX6_awake 246 = .ok (.lcmp, 1) := by decide +kernel
theorem dX6_awake_247 : decode cX6_awake 247 = .ok (.ifCond .eq 21, 3) := by decide +kernel
theorem dX6_awake_250 : decode cX6_awake 250 = .ok (.lload 8, 2) := by decide +kernel
theorem dX6_awake_252 : decode cX6_awake 252 = .ok (.lload 10, 2) := by decide +kernel
theorem dX6_awake_254 : decode cX6_awake 254 = .ok (.lrem, 1) := by decide +kernel
theorem dX6_awake_255 : decode cX6_awake 255 = .ok (.lstore 12, 2) := by decide +kernel
theorem dX6_awake_257 : decode cX6_awake 257 = .ok (.lload 10, 2) := by decide +kernel
theorem dX6_awake_259 : decode cX6_awake 259 = .ok (.lstore 8, 2) := by decide +kernel
theorem dX6_awake_261 : decode cX6_awake 261 = .ok (.lload 12, 2) := by decide +kernel
theorem dX6_awake_263 : decode cX6_awake 263 = .ok (.lstore 10, 2) := by decide +kernel
theorem dX6_awake_265 : decode cX6_awake 265 = .ok (.goto (-22), 3) := by decide +kernel
theorem dX6_awake_268 : decode cX6_awake 268 = .ok (.iload_n 2, 1) := by decide +kernel
theorem dX6_awake_269 : decode cX6_awake 269 = .ok (.ifCond .ne 8, 3) := by decide +kernel
theorem dX6_awake_272 : decode cX6_awake 272 = .ok (.lload 4, 2) := by decide +kernel
theorem dX6_awake_274 : decode cX6_awake 274 = .ok (.goto 5, 3) := by decide +kernel
theorem dX6_awake_277 : decode cX6_awake 277 = .ok (.lload 6, 2) := by decide +kernel
theorem dX6_awake_279 : decode cX6_awake 279 = .ok (.lload 8, 2) := by decide +kernel
theorem dX6_awake_281 : decode cX6_awake 281 = .ok (.ldiv, 1) := by decide +kernel
theorem dX6_awake_282 : decode cX6_awake 282 = .ok (.lreturn, 1) := by decide +kernel
theorem dX6_drawn_0 : decode cX6_drawn 0 = .ok (.aload_n 0, 1) := by decide +kernel
theorem dX6_drawn_1 : decode cX6_drawn 1 = .ok (.iconst 0, 1) := by decide +kernel
theorem dX6_drawn_2 : decode cX6_drawn 2 = .ok (.putfield 54, 3) := by decide +kernel
theorem dX6_drawn_5 : decode cX6_drawn 5 = .ok (.aload_n 0, 1) := by decide +kernel
theorem dX6_drawn_6 : decode cX6_drawn 6 = .ok (.invokevirtual 193, 3) := by decide +kernel
theorem dX6_drawn_9 : decode cX6_drawn 9 = .ok (.ifCond .ne 6, 3) := by decide +kernel
theorem dX6_drawn_12 : decode cX6_drawn 12 = .ok (.ldc 196, 2) := by decide +kernel
theorem dX6_drawn_14 : decode cX6_drawn 14 = .ok (.ireturn, 1) := by decide +kernel
theorem dX6_drawn_15 : decode cX6_drawn 15 = .ok (.iload_n 1, 1) := by decide +kernel
theorem dX6_drawn_16 : decode cX6_drawn 16 = .ok (.i2l, 1) := by decide +kernel
theorem dX6_drawn_17 : decode cX6_drawn 17 = .ok (.lconst 0, 1) := by decide +kernel
theorem dX6_drawn_18 : decode cX6_drawn 18 = .ok (.ldc2_w 210, 3) := by decide +kernel
theorem dX6_drawn_21 : decode cX6_drawn 21 = .ok (.invokestatic 64, 3) := by decide +kernel
theorem dX6_drawn_24 : decode cX6_drawn 24 = .ok (.ifCond .eq 25, 3) := by decide +kernel
theorem dX6_drawn_27 : decode cX6_drawn 27 = .ok (.iload_n 2, 1) := by decide +kernel
theorem dX6_drawn_28 : decode cX6_drawn 28 = .ok (.i2l, 1) := by decide +kernel
theorem dX6_drawn_29 : decode cX6_drawn 29 = .ok (.lconst 1, 1) := by decide +kernel
theorem dX6_drawn_30 : decode cX6_drawn 30 = .ok (.ldc2_w 241, 3) := by decide +kernel
theorem dX6_drawn_33 : decode cX6_drawn 33 = .ok (.invokestatic 64, 3) := by decide +kernel
theorem dX6_drawn_36 : decode cX6_drawn 36 = .ok (.ifCond .eq 13, 3) := by decide +kernel
theorem dX6_drawn_39 : decode cX6_drawn 39 = .ok (.iload_n 3, 1) := by decide +kernel
theorem dX6_drawn_40 : decode cX6_drawn 40 = .ok (.i2l, 1) := by decide +kernel
theorem dX6_drawn_41 : decode cX6_drawn 41 = .ok (.lconst 0, 1) := by decide +kernel
theorem dX6_drawn_42 : decode cX6_drawn 42 = .ok (.lconst 1, 1) := by decide +kernel
theorem dX6_drawn_43 : decode cX6_drawn 43 = .ok (.invokestatic 64, 3) := by decide +kernel
theorem dX6_drawn_46 : decode cX6_drawn 46 = .ok (.ifCond .ne 6, 3) := by decide +kernel
theorem dX6_drawn_49 : decode cX6_drawn 49 = .ok (.ldc 74, 2) := by decide +kernel
theorem dX6_drawn_51 : decode cX6_drawn 51 = .ok (.ireturn, 1) := by decide +kernel
theorem dX6_drawn_52 : decode cX6_drawn 52 = .ok (.aload_n 0, 1) := by decide +kernel
theorem dX6_drawn_53 : decode cX6_drawn 53 = .ok (.invokevirtual 212, 3) := by decide +kernel
theorem dX6_drawn_56 : decode cX6_drawn 56 = .ok (.iload_n 2, 1) := by decide +kernel
theorem dX6_drawn_57 : decode cX6_drawn 57 = .ok (.i2l, 1) := by decide +kernel
theorem dX6_drawn_58 : decode cX6_drawn 58 = .ok (.lstore 4, 2) := by decide +kernel
theorem dX6_drawn_60 : decode cX6_drawn 60 = .ok (.iconst 0, 1) := by decide +kernel
theorem dX6_drawn_61 : decode cX6_drawn 61 = .ok (.istore 6, 2) := by decide +kernel
theorem dX6_drawn_63 : decode cX6_drawn 63 = .ok (.iload 6, 2) := by decide +kernel
theorem dX6_drawn_65 : decode cX6_drawn 65 = .ok (.iload_n 1, 1) := by decide +kernel
theorem dX6_drawn_66 : decode cX6_drawn 66 = .ok (.if_icmp .ge 75, 3) := by decide +kernel
theorem dX6_drawn_69 : decode cX6_drawn 69 = .ok (.lload 4, 2) := by decide +kernel
theorem dX6_drawn_71 : decode cX6_drawn 71 = .ok (.ldc2_w 243, 3) := by decide +kernel
theorem dX6_drawn_74 : decode cX6_drawn 74 = .ok (.lmul, 1) := by decide +kernel
theorem dX6_drawn_75 : decode cX6_drawn 75 = .ok (.ldc2_w 245, 3) := by decide +kernel
theorem dX6_drawn_78 : decode cX6_drawn 78 = .ok (.lrem, 1) := by decide +kernel
theorem dX6_drawn_79 : decode cX6_drawn 79 = .ok (.lstore 4, 2) := by decide +kernel
theorem dX6_drawn_81 : decode cX6_drawn 81 = .ok (.aload_n 0, 1) := by decide +kernel
theorem dX6_drawn_82 : decode cX6_drawn 82 = .ok (.getfield 25, 3) := by decide +kernel
theorem dX6_drawn_85 : decode cX6_drawn 85 = .ok (.iconst 5, 1) := by decide +kernel
theorem dX6_drawn_86 : decode cX6_drawn 86 = .ok (.iaload, 1) := by decide +kernel
theorem dX6_drawn_87 : decode cX6_drawn 87 = .ok (.ifCond .le 38, 3) := by decide +kernel
theorem dX6_drawn_90 : decode cX6_drawn 90 = .ok (.aload_n 0, 1) := by decide +kernel
theorem dX6_drawn_91 : decode cX6_drawn 91 = .ok (.getfield 25, 3) := by decide +kernel
theorem dX6_drawn_94 : decode cX6_drawn 94 = .ok (.bipush 16, 2) := by decide +kernel
theorem dX6_drawn_96 : decode cX6_drawn 96 = .ok (.bipush 8, 2) := by decide +kernel
theorem dX6_drawn_98 : decode cX6_drawn 98 = .ok (.lload 4, 2) := by decide +kernel
theorem dX6_drawn_100 : decode cX6_drawn 100 = .ok (.aload_n 0, 1) := by decide +kernel
theorem dX6_drawn_101 : decode cX6_drawn 101 = .ok (.getfield 25, 3) := by decide +kernel
theorem dX6_drawn_104 : decode cX6_drawn 104 = .ok (.iconst 5, 1) := by decide +kernel
theorem dX6_drawn_105 : decode cX6_drawn 105 = .ok (.iaload, 1) := by decide +kernel
theorem dX6_drawn_106 : decode cX6_drawn 106 = .ok (.i2l, 1) := by decide +kernel
theorem dX6_drawn_107 : decode cX6_drawn 107 = .ok (.lrem, 1) := by decide +kernel
theorem dX6_drawn_108 : decode cX6_drawn 108 = .ok (.l2i, 1) := by decide +kernel
theorem dX6_drawn_109 : decode cX6_drawn 109 = .ok (.imul, 1) := by decide +kernel
theorem dX6_drawn_110 : decode cX6_drawn 110 = .ok (.iadd, 1) := by decide +kernel
theorem dX6_drawn_111 : decode cX6_drawn 111 = .ok (.iconst 2, 1) := by decide +kernel
theorem dX6_drawn_112 : decode cX6_drawn 112 = .ok (.iadd, 1) := by decide +kernel
theorem dX6_drawn_113 : decode cX6_drawn 113 = .ok (.lload 4, 2) := by decide +kernel
theorem dX6_drawn_115 : decode cX6_drawn 115 = .ok (.aload_n 0, 1) := by decide +kernel
theorem dX6_drawn_116 : decode cX6_drawn 116 = .ok (.getfield 25, 3) := by decide +kernel
theorem dX6_drawn_119 : decode cX6_drawn 119 = .ok (.iconst 0, 1) := by decide +kernel
theorem dX6_drawn_120 : decode cX6_drawn 120 = .ok (.iaload, 1) := by decide +kernel
theorem dX6_drawn_121 : decode cX6_drawn 121 = .ok (.i2l, 1) := by decide +kernel
theorem dX6_drawn_122 : decode cX6_drawn 122 = .ok (.lrem, 1) := by decide +kernel
theorem dX6_drawn_123 : decode cX6_drawn 123 = .ok (.l2i, 1) := by decide +kernel
theorem dX6_drawn_124 : decode cX6_drawn 124 = .ok (.iastore, 1) := by decide +kernel
theorem dX6_drawn_125 : decode cX6_drawn 125 = .ok (.aload_n 0, 1) := by decide +kernel
theorem dX6_drawn_126 : decode cX6_drawn 126 = .ok (.aload_n 0, 1) := by decide +kernel
theorem dX6_drawn_127 : decode cX6_drawn 127 = .ok (.getfield 25, 3) := by decide +kernel
theorem dX6_drawn_130 : decode cX6_drawn 130 = .ok (.iconst 0, 1) := by decide +kernel
theorem dX6_drawn_131 : decode cX6_drawn 131 = .ok (.iconst 0, 1) := by decide +kernel
theorem dX6_drawn_132 : decode cX6_drawn 132 = .ok (.invokevirtual 185, 3) := by decide +kernel
theorem dX6_drawn_135 : decode cX6_drawn 135 = .ok (.iinc 6 1, 3) := by decide +kernel
theorem dX6_drawn_138 : decode cX6_drawn 138 = .ok (.goto (-75), 3) := by decide +kernel
theorem dX6_drawn_141 : decode cX6_drawn 141 = .ok (.iload_n 3, 1) := by decide +kernel
theorem dX6_drawn_142 : decode cX6_drawn 142 = .ok (.ifCond .ne 12, 3) := by decide +kernel
theorem dX6_drawn_145 : decode cX6_drawn 145 = .ok (.aload_n 0, 1) := by decide +kernel
theorem dX6_drawn_146 : decode cX6_drawn 146 = .ok (.getfield 25, 3) := by decide +kernel
theorem dX6_drawn_149 : decode cX6_drawn 149 = .ok (.iconst 1, 1) := by decide +kernel
theorem dX6_drawn_150 : decode cX6_drawn 150 = .ok (.iaload, 1) := by decide +kernel
theorem dX6_drawn_151 : decode cX6_drawn 151 = .ok (.goto 18, 3) := by decide +kernel
theorem dX6_drawn_154 : decode cX6_drawn 154 = .ok (.aload_n 0, 1) := by decide +kernel
theorem dX6_drawn_155 : decode cX6_drawn 155 = .ok (.getfield 25, 3) := by decide +kernel
theorem dX6_drawn_158 : decode cX6_drawn 158 = .ok (.bipush 7, 2) := by decide +kernel
theorem dX6_drawn_160 : decode cX6_drawn 160 = .ok (.iaload, 1) := by decide +kernel
theorem dX6_drawn_161 : decode cX6_drawn 161 = .ok (.aload_n 0, 1) := by decide +kernel
theorem dX6_drawn_162 : decode cX6_drawn 162 = .ok (.getfield 19, 3) := by decide +kernel
theorem dX6_drawn_165 : decode cX6_drawn 165 = .ok (.bipush 7, 2) := by decide +kernel
theorem dX6_drawn_167 : decode cX6_drawn 167 = .ok (.iaload, 1) := by decide +kernel
theorem dX6_drawn_168 : decode cX6_drawn 168 = .ok (.isub, 1) := by decide +kernel
theorem dX6_drawn_169 : decode cX6_drawn 169 = .ok (.ireturn, 1) := by decide +kernel
theorem dX6_image_0 : decode cX6_image 0 = .ok (.aload_n 0, 1) := by decide +kernel
theorem dX6_image_1 : decode cX6_image 1 = .ok (.iconst 0, 1) := by decide +kernel
theorem dX6_image_2 : decode cX6_image 2 = .ok (.putfield 54, 3) := by decide +kernel
theorem dX6_image_5 : decode cX6_image 5 = .ok (.iload_n 1, 1) := by decide +kernel
theorem dX6_image_6 : decode cX6_image 6 = .ok (.i2l, 1) := by decide +kernel
theorem dX6_image_7 : decode cX6_image 7 = .ok (.lconst 0, 1) := by decide +kernel
theorem dX6_image_8 : decode cX6_image 8 = .ok (.lconst 1, 1) := by decide +kernel
theorem dX6_image_9 : decode cX6_image 9 = .ok (.invokestatic 64, 3) := by decide +kernel
theorem dX6_image_12 : decode cX6_image 12 = .ok (.ifCond .ne 6, 3) := by decide +kernel
theorem dX6_image_15 : decode cX6_image 15 = .ok (.ldc 74, 2) := by decide +kernel
theorem dX6_image_17 : decode cX6_image 17 = .ok (.ireturn, 1) := by decide +kernel
theorem dX6_image_18 : decode cX6_image 18 = .ok (.aload_n 0, 1) := by decide +kernel
theorem dX6_image_19 : decode cX6_image 19 = .ok (.invokevirtual 193, 3) := by decide +kernel
theorem dX6_image_22 : decode cX6_image 22 = .ok (.ifCond .ne 6, 3) := by decide +kernel
theorem dX6_image_25 : decode cX6_image 25 = .ok (.ldc 196, 2) := by decide +kernel
theorem dX6_image_27 : decode cX6_image 27 = .ok (.ireturn, 1) := by decide +kernel
theorem dX6_image_28 : decode cX6_image 28 = .ok (.iconst 0, 1) := by decide +kernel
theorem dX6_image_29 : decode cX6_image 29 = .ok (.istore_n 2, 1) := by decide +kernel
theorem dX6_image_30 : decode cX6_image 30 = .ok (.iload_n 2, 1) := by decide +kernel
theorem dX6_image_31 : decode cX6_image 31 = .ok (.bipush 64, 2) := by decide +kernel
theorem dX6_image_33 : decode cX6_image 33 = .ok (.if_icmp .ge 26, 3) := by decide +kernel
theorem dX6_image_36 : decode cX6_image 36 = .ok (.aload_n 0, 1) := by decide +kernel
theorem dX6_image_37 : decode cX6_image 37 = .ok (.getfield 48, 3) := by decide +kernel
theorem dX6_image_40 : decode cX6_image 40 = .ok (.bipush 64, 2) := by decide +kernel
theorem dX6_image_42 : decode cX6_image 42 = .ok (.iload_n 1, 1) := by decide +kernel
theorem dX6_image_43 : decode cX6_image 43 = .ok (.imul, 1) := by decide +kernel
theorem dX6_image_44 : decode cX6_image 44 = .ok (.iload_n 2, 1) := by decide +kernel
theorem dX6_image_45 : decode cX6_image 45 = .ok (.iadd, 1) := by decide +kernel
theorem dX6_image_46 : decode cX6_image 46 = .ok (.aload_n 0, 1) := by decide +kernel
theorem dX6_image_47 : decode cX6_image 47 = .ok (.getfield 19, 3) := by decide +kernel
theorem dX6_image_50 : decode cX6_image 50 = .ok (.iload_n 2, 1) := by decide +kernel
theorem dX6_image_51 : decode cX6_image 51 = .ok (.iaload, 1) := by decide +kernel
theorem dX6_image_52 : decode cX6_image 52 = .ok (.iastore, 1) := by decide +kernel
theorem dX6_image_53 : decode cX6_image 53 = .ok (.iinc 2 1, 3) := by decide +kernel
theorem dX6_image_56 : decode cX6_image 56 = .ok (.goto (-26), 3) := by decide +kernel
theorem dX6_image_59 : decode cX6_image 59 = .ok (.aload_n 0, 1) := by decide +kernel
theorem dX6_image_60 : decode cX6_image 60 = .ok (.getfield 44, 3) := by decide +kernel
theorem dX6_image_63 : decode cX6_image 63 = .ok (.iload_n 1, 1) := by decide +kernel
theorem dX6_image_64 : decode cX6_image 64 = .ok (.iconst 1, 1) := by decide +kernel
theorem dX6_image_65 : decode cX6_image 65 = .ok (.bastore, 1) := by decide +kernel
theorem dX6_image_66 : decode cX6_image 66 = .ok (.iconst 1, 1) := by decide +kernel
theorem dX6_image_67 : decode cX6_image 67 = .ok (.ireturn, 1) := by decide +kernel
theorem dX6_restore_0 : decode cX6_restore 0 = .ok (.aload_n 0, 1) := by decide +kernel
theorem dX6_restore_1 : decode cX6_restore 1 = .ok (.iconst 0, 1) := by decide +kernel
theorem dX6_restore_2 : decode cX6_restore 2 = .ok (.putfield 54, 3) := by decide +kernel
theorem dX6_restore_5 : decode cX6_restore 5 = .ok (.iload_n 1, 1) := by decide +kernel
theorem dX6_restore_6 : decode cX6_restore 6 = .ok (.i2l, 1) := by decide +kernel
theorem dX6_restore_7 : decode cX6_restore 7 = .ok (.lconst 0, 1) := by decide +kernel
theorem dX6_restore_8 : decode cX6_restore 8 = .ok (.lconst 1, 1) := by decide +kernel
theorem dX6_restore_9 : decode cX6_restore 9 = .ok (.invokestatic 64, 3) := by decide +kernel
theorem dX6_restore_12 : decode cX6_restore 12 = .ok (.ifCond .ne 6, 3) := by decide +kernel
theorem dX6_restore_15 : decode cX6_restore 15 = .ok (.ldc 74, 2) := by decide +kernel
theorem dX6_restore_17 : decode cX6_restore 17 = .ok (.ireturn, 1) := by decide +kernel
theorem dX6_restore_18 : decode cX6_restore 18 = .ok (.aload_n 0, 1) := by decide +kernel
theorem dX6_restore_19 : decode cX6_restore 19 = .ok (.getfield 44, 3) := by decide +kernel
theorem dX6_restore_22 : decode cX6_restore 22 = .ok (.iload_n 1, 1) := by decide +kernel
theorem dX6_restore_23 : decode cX6_restore 23 = .ok (.baload, 1) := by decide +kernel
theorem dX6_restore_24 : decode cX6_restore 24 = .ok (.ifCond .ne 6, 3) := by decide +kernel
theorem dX6_restore_27 : decode cX6_restore 27 = .ok (.ldc 196, 2) := by decide +kernel
theorem dX6_restore_29 : decode cX6_restore 29 = .ok (.ireturn, 1) := by decide +kernel
theorem dX6_restore_30 : decode cX6_restore 30 = .ok (.iconst 0, 1) := by decide +kernel
theorem dX6_restore_31 : decode cX6_restore 31 = .ok (.istore_n 2, 1) := by decide +kernel
theorem dX6_restore_32 : decode cX6_restore 32 = .ok (.iload_n 2, 1) := by decide +kernel
theorem dX6_restore_33 : decode cX6_restore 33 = .ok (.bipush 64, 2) := by decide +kernel
theorem dX6_restore_35 : decode cX6_restore 35 = .ok (.if_icmp .ge 26, 3) := by decide +kernel
theorem dX6_restore_38 : decode cX6_restore 38 = .ok (.aload_n 0, 1) := by decide +kernel
theorem dX6_restore_39 : decode cX6_restore 39 = .ok (.getfield 19, 3) := by decide +kernel
theorem dX6_restore_42 : decode cX6_restore 42 = .ok (.iload_n 2, 1) := by decide +kernel
theorem dX6_restore_43 : decode cX6_restore 43 = .ok (.aload_n 0, 1) := by decide +kernel
theorem dX6_restore_44 : decode cX6_restore 44 = .ok (.getfield 48, 3) := by decide +kernel
theorem dX6_restore_47 : decode cX6_restore 47 = .ok (.bipush 64, 2) := by decide +kernel
theorem dX6_restore_49 : decode cX6_restore 49 = .ok (.iload_n 1, 1) := by decide +kernel
theorem dX6_restore_50 : decode cX6_restore 50 = .ok (.imul, 1) := by decide +kernel
theorem dX6_restore_51 : decode cX6_restore 51 = .ok (.iload_n 2, 1) := by decide +kernel
theorem dX6_restore_52 : decode cX6_restore 52 = .ok (.iadd, 1) := by decide +kernel
theorem dX6_restore_53 : decode cX6_restore 53 = .ok (.iaload, 1) := by decide +kernel
theorem dX6_restore_54 : decode cX6_restore 54 = .ok (.iastore, 1) := by decide +kernel
theorem dX6_restore_55 : decode cX6_restore 55 = .ok (.iinc 2 1, 3) := by decide +kernel
theorem dX6_restore_58 : decode cX6_restore 58 = .ok (.goto (-26), 3) := by decide +kernel
theorem dX6_restore_61 : decode cX6_restore 61 = .ok (.aload_n 0, 1) := by decide +kernel
theorem dX6_restore_62 : decode cX6_restore 62 = .ok (.iconst 0, 1) := by decide +kernel
theorem dX6_restore_63 : decode cX6_restore 63 = .ok (.putfield 153, 3) := by decide +kernel
theorem dX6_restore_66 : decode cX6_restore 66 = .ok (.aload_n 0, 1) := by decide +kernel
theorem dX6_restore_67 : decode cX6_restore 67 = .ok (.invokevirtual 156, 3) := by decide +kernel
theorem dX6_restore_70 : decode cX6_restore 70 = .ok (.iconst 1, 1) := by decide +kernel
theorem dX6_restore_71 : decode cX6_restore 71 = .ok (.ireturn, 1) := by decide +kernel
theorem dX6_isOf_0 : decode cX6_isOf 0 = .ok (.iload_n 1, 1) := by decide +kernel
theorem dX6_isOf_1 : decode cX6_isOf 1 = .ok (.ifCond .eq 28, 3) := by decide +kernel
theorem dX6_isOf_4 : decode cX6_isOf 4 = .ok (.iload_n 0, 1) := by decide +kernel
theorem dX6_isOf_5 : decode cX6_isOf 5 = .ok (.iload_n 1, 1) := by decide +kernel
theorem dX6_isOf_6 : decode cX6_isOf 6 = .ok (.if_icmp .eq 23, 3) := by decide +kernel
theorem dX6_isOf_9 : decode cX6_isOf 9 = .ok (.iload_n 1, 1) := by decide +kernel
theorem dX6_isOf_10 : decode cX6_isOf 10 = .ok (.iconst 1, 1) := by decide +kernel
theorem dX6_isOf_11 : decode cX6_isOf 11 = .ok (.if_icmp .ne 8, 3) := by decide +kernel
theorem dX6_isOf_14 : decode cX6_isOf 14 = .ok (.iload_n 0, 1) := by decide +kernel
theorem dX6_isOf_15 : decode cX6_isOf 15 = .ok (.iconst 4, 1) := by decide +kernel
theorem dX6_isOf_16 : decode cX6_isOf 16 = .ok (.if_icmp .lt 13, 3) := by decide +kernel
theorem dX6_isOf_19 : decode cX6_isOf 19 = .ok (.iload_n 1, 1) := by decide +kernel
theorem dX6_isOf_20 : decode cX6_isOf 20 = .ok (.iconst 4, 1) := by decide +kernel
theorem dX6_isOf_21 : decode cX6_isOf 21 = .ok (.if_icmp .ne 12, 3) := by decide +kernel
theorem dX6_isOf_24 : decode cX6_isOf 24 = .ok (.iload_n 0, 1) := by decide +kernel
theorem dX6_isOf_25 : decode cX6_isOf 25 = .ok (.iconst 5, 1) := by decide +kernel
theorem dX6_isOf_26 : decode cX6_isOf 26 = .ok (.if_icmp .ne 7, 3) := by decide +kernel
theorem dX6_isOf_29 : decode cX6_isOf 29 = .ok (.iconst 1, 1) := by decide +kernel
theorem dX6_isOf_30 : decode cX6_isOf 30 = .ok (.goto 4, 3) := by decide +kernel
theorem dX6_isOf_33 : decode cX6_isOf 33 = .ok (.iconst 0, 1) := by decide +kernel
theorem dX6_isOf_34 : decode cX6_isOf 34 = .ok (.ireturn, 1) := by decide +kernel
theorem dX6_kind_0 : decode cX6_kind 0 = .ok (.aload_n 0, 1) := by decide +kernel
theorem dX6_kind_1 : decode cX6_kind 1 = .ok (.iconst 0, 1) := by decide +kernel
theorem dX6_kind_2 : decode cX6_kind 2 = .ok (.putfield 54, 3) := by decide +kernel
theorem dX6_kind_5 : decode cX6_kind 5 = .ok (.aload_n 0, 1) := by decide +kernel
theorem dX6_kind_6 : decode cX6_kind 6 = .ok (.iload_n 1, 1) := by decide +kernel
theorem dX6_kind_7 : decode cX6_kind 7 = .ok (.invokevirtual 202, 3) := by decide +kernel
theorem dX6_kind_10 : decode cX6_kind 10 = .ok (.ifCond .eq 15, 3) := by decide +kernel
theorem dX6_kind_13 : decode cX6_kind 13 = .ok (.aload_n 0, 1) := by decide +kernel
theorem dX6_kind_14 : decode cX6_kind 14 = .ok (.getfield 19, 3) := by decide +kernel
theorem dX6_kind_17 : decode cX6_kind 17 = .ok (.iload_n 1, 1) := by decide +kernel
theorem dX6_kind_18 : decode cX6_kind 18 = .ok (.iconst 0, 1) := by decide +kernel
theorem dX6_kind_19 : decode cX6_kind 19 = .ok (.invokestatic 159, 3) := by decide +kernel
theorem dX6_kind_22 : decode cX6_kind 22 = .ok (.goto 5, 3) := by decide +kernel
theorem dX6_kind_25 : decode cX6_kind 25 = .ok (.ldc 74, 2) := by decide +kernel
theorem dX6_kind_27 : decode cX6_kind 27 = .ok (.ireturn, 1) := by decide +kernel
theorem dX6_as_0 : decode cX6_as 0 = .ok (.aload_n 0, 1) := by decide +kernel
theorem dX6_as_1 : decode cX6_as 1 = .ok (.iconst 0, 1) := by decide +kernel
theorem dX6_as_2 : decode cX6_as 2 = .ok (.putfield 54, 3) := by decide +kernel
theorem dX6_as_5 : decode cX6_as 5 = .ok (.aload_n 0, 1) := by decide +kernel
theorem dX6_as_6 : decode cX6_as 6 = .ok (.iload_n 1, 1) := by decide +kernel
theorem dX6_as_7 : decode cX6_as 7 = .ok (.invokevirtual 202, 3) := by decide +kernel
theorem dX6_as_10 : decode cX6_as 10 = .ok (.ifCond .eq 15, 3) := by decide +kernel
theorem dX6_as_13 : decode cX6_as 13 = .ok (.iload_n 2, 1) := by decide +kernel
theorem dX6_as_14 : decode cX6_as 14 = .ok (.i2l, 1) := by decide +kernel
theorem dX6_as_15 : decode cX6_as 15 = .ok (.lconst 0, 1) := by decide +kernel
theorem dX6_as_16 : decode cX6_as 16 = .ok (.ldc2_w 247, 3) := by decide +kernel
theorem dX6_as_19 : decode cX6_as 19 = .ok (.invokestatic 64, 3) := by decide +kernel
theorem dX6_as_22 : decode cX6_as 22 = .ok (.ifCond .ne 6, 3) := by decide +kernel
theorem dX6_as_25 : decode cX6_as 25 = .ok (.ldc 74, 2) := by decide +kernel
theorem dX6_as_27 : decode cX6_as 27 = .ok (.ireturn, 1) := by decide +kernel
theorem dX6_as_28 : decode cX6_as 28 = .ok (.aload_n 0, 1) := by decide +kernel
theorem dX6_as_29 : decode cX6_as 29 = .ok (.iconst 0, 1) := by decide +kernel
theorem dX6_as_30 : decode cX6_as 30 = .ok (.putfield 58, 3) := by decide +kernel
theorem dX6_as_33 : decode cX6_as 33 = .ok (.aload_n 0, 1) := by decide +kernel
theorem dX6_as_34 : decode cX6_as 34 = .ok (.getfield 19, 3) := by decide +kernel
theorem dX6_as_37 : decode cX6_as 37 = .ok (.iload_n 1, 1) := by decide +kernel
theorem dX6_as_38 : decode cX6_as 38 = .ok (.iconst 0, 1) := by decide +kernel
theorem dX6_as_39 : decode cX6_as 39 = .ok (.invokestatic 159, 3) := by decide +kernel
theorem dX6_as_42 : decode cX6_as 42 = .ok (.iload_n 2, 1) := by decide +kernel
theorem dX6_as_43 : decode cX6_as 43 = .ok (.invokestatic 249, 3) := by decide +kernel
theorem dX6_as_46 : decode cX6_as 46 = .ok (.ifCond .eq 7, 3) := by decide +kernel
theorem dX6_as_49 : decode cX6_as 49 = .ok (.iload_n 1, 1) := by decide +kernel
theorem dX6_as_50 : decode cX6_as 50 = .ok (.goto 8, 3) := by decide +kernel
theorem dX6_as_53 : decode cX6_as 53 = .ok (.aload_n 0, 1) := by decide +kernel
theorem dX6_as_54 : decode cX6_as 54 = .ok (.iconst 3, 1) := by decide +kernel
theorem dX6_as_55 : decode cX6_as 55 = .ok (.invokevirtual 75, 3) := by decide +kernel
theorem dX6_as_58 : decode cX6_as 58 = .ok (.ireturn, 1) := by decide +kernel
theorem dX6_began_0 : decode cX6_began 0 = .ok (.aload_n 0, 1) := by decide +kernel
theorem dX6_began_1 : decode cX6_began 1 = .ok (.getfield 252, 3) := by decide +kernel
theorem dX6_began_4 : decode cX6_began 4 = .ok (.bipush 16, 2) := by decide +kernel
theorem dX6_began_6 : decode cX6_began 6 = .ok (.if_icmp .ge 23, 3) := by decide +kernel
theorem dX6_began_9 : decode cX6_began 9 = .ok (.aload_n 0, 1) := by decide +kernel
theorem dX6_began_10 : decode cX6_began 10 = .ok (.getfield 51, 3) := by decide +kernel
theorem dX6_began_13 : decode cX6_began 13 = .ok (.aload_n 0, 1) := by decide +kernel
theorem dX6_began_14 : decode cX6_began 14 = .ok (.getfield 252, 3) := by decide +kernel
theorem dX6_began_17 : decode cX6_began 17 = .ok (.iload_n 1, 1) := by decide +kernel
theorem dX6_began_18 : decode cX6_began 18 = .ok (.iastore, 1) := by decide +kernel
theorem dX6_began_19 : decode cX6_began 19 = .ok (.aload_n 0, 1) := by decide +kernel
theorem dX6_began_20 : decode cX6_began 20 = .ok (.dup, 1) := by decide +kernel
theorem dX6_began_21 : decode cX6_began 21 = .ok (.getfield 252, 3) := by decide +kernel
theorem dX6_began_24 : decode cX6_began 24 = .ok (.iconst 1, 1) := by decide +kernel
theorem dX6_began_25 : decode cX6_began 25 = .ok (.iadd, 1) := by decide +kernel
theorem dX6_began_26 : decode cX6_began 26 = .ok (.putfield 252, 3) := by decide +kernel
theorem dX6_began_29 : decode cX6_began 29 = .ok (.return_, 1) := by decide +kernel
theorem dX6_plainSize_0 : decode cX6_plainSize 0 = .ok (.aload_n 0, 1) := by decide +kernel
theorem dX6_plainSize_1 : decode cX6_plainSize 1 = .ok (.bipush 10, 2) := by decide +kernel
theorem dX6_plainSize_3 : decode cX6_plainSize 3 = .ok (.invokevirtual 255, 3) := by decide +kernel
theorem dX6_plainSize_6 : decode cX6_plainSize 6 = .ok (.aload_n 0, 1) := by decide +kernel
theorem dX6_plainSize_7 : decode cX6_plainSize 7 = .ok (.getfield 19, 3) := by decide +kernel
theorem dX6_plainSize_10 : decode cX6_plainSize 10 = .ok (.iload_n 1, 1) := by decide +kernel
theorem dX6_plainSize_11 : decode cX6_plainSize 11 = .ok (.iconst 3, 1) := by decide +kernel
theorem dX6_plainSize_12 : decode cX6_plainSize 12 = .ok (.invokestatic 159, 3) := by decide +kernel
theorem dX6_plainSize_15 : decode cX6_plainSize 15 = .ok (.ireturn, 1) := by decide +kernel
theorem dX6_childSize_0 : decode cX6_childSize 0 = .ok (.aload_n 0, 1) := by decide +kernel
theorem dX6_childSize_1 : decode cX6_childSize 1 = .ok (.getfield 19, 3) := by decide +kernel
theorem dX6_childSize_4 : decode cX6_childSize 4 = .ok (.iload_n 1, 1) := by decide +kernel
theorem dX6_childSize_5 : decode cX6_childSize 5 = .ok (.iconst 0, 1) := by decide +kernel
theorem dX6_childSize_6 : decode cX6_childSize 6 = .ok (.invokestatic 159, 3) := by decide +kernel
theorem dX6_childSize_9 : decode cX6_childSize 9 = .ok (.iconst 5, 1) := by decide +kernel
theorem dX6_childSize_10 : decode cX6_childSize 10 = .ok (.if_icmp .ne 7, 3) := by decide +kernel
theorem dX6_childSize_13 : decode cX6_childSize 13 = .ok (.iconst 1, 1) := by decide +kernel
theorem dX6_childSize_14 : decode cX6_childSize 14 = .ok (.goto 4, 3) := by decide +kernel
theorem dX6_childSize_17 : decode cX6_childSize 17 = .ok (.iconst 0, 1) := by decide +kernel
theorem dX6_childSize_18 : decode cX6_childSize 18 = .ok (.istore_n 2, 1) := by decide +kernel
theorem dX6_childSize_19 : decode cX6_childSize 19 = .ok (.iload_n 2, 1) := by decide +kernel
theorem dX6_childSize_20 : decode cX6_childSize 20 = .ok (.ifCond .eq 9, 3) := by decide +kernel
theorem dX6_childSize_23 : decode cX6_childSize 23 = .ok (.aload_n 0, 1) := by decide +kernel
theorem dX6_childSize_24 : decode cX6_childSize 24 = .ok (.bipush 14, 2) := by decide +kernel
theorem dX6_childSize_26 : decode cX6_childSize 26 = .ok (.invokevirtual 255, 3) := by decide +kernel
theorem dX6_childSize_29 : decode cX6_childSize 29 = .ok (.aload_n 0, 1) := by decide +kernel
theorem dX6_childSize_30 : decode cX6_childSize 30 = .ok (.bipush 13, 2) := by decide +kernel
theorem dX6_childSize_32 : decode cX6_childSize 32 = .ok (.invokevirtual 255, 3) := by decide +kernel
theorem dX6_childSize_35 : decode cX6_childSize 35 = .ok (.aload_n 0, 1) := by decide +kernel
theorem dX6_childSize_36 : decode cX6_childSize 36 = .ok (.iload_n 1, 1) := by decide +kernel
theorem dX6_childSize_37 : decode cX6_childSize 37 = .ok (.invokevirtual 258, 3) := by decide +kernel
theorem dX6_childSize_40 : decode cX6_childSize 40 = .ok (.bipush 100, 2) := by decide +kernel
theorem dX6_childSize_42 : decode cX6_childSize 42 = .ok (.isub, 1) := by decide +kernel
theorem dX6_childSize_43 : decode cX6_childSize 43 = .ok (.istore_n 3, 1) := by decide +kernel
theorem dX6_childSize_44 : decode cX6_childSize 44 = .ok (.iload_n 2, 1) := by decide +kernel
theorem dX6_childSize_45 : decode cX6_childSize 45 = .ok (.ifCond .eq 9, 3) := by decide +kernel
theorem dX6_childSize_48 : decode cX6_childSize 48 = .ok (.iconst 2, 1) := by decide +kernel
theorem dX6_childSize_49 : decode cX6_childSize 49 = .ok (.iload_n 3, 1) := by decide +kernel
theorem dX6_childSize_50 : decode cX6_childSize 50 = .ok (.imul, 1) := by decide +kernel
theorem dX6_childSize_51 : decode cX6_childSize 51 = .ok (.goto 4, 3) := by decide +kernel
theorem dX6_childSize_54 : decode cX6_childSize 54 = .ok (.iload_n 3, 1) := by decide +kernel
theorem dX6_childSize_55 : decode cX6_childSize 55 = .ok (.ireturn, 1) := by decide +kernel
theorem dX6_markOf_0 : decode cX6_markOf 0 = .ok (.aload_n 0, 1) := by decide +kernel
theorem dX6_markOf_1 : decode cX6_markOf 1 = .ok (.getfield 19, 3) := by decide +kernel
theorem dX6_markOf_4 : decode cX6_markOf 4 = .ok (.iload_n 1, 1) := by decide +kernel
theorem dX6_markOf_5 : decode cX6_markOf 5 = .ok (.iconst 0, 1) := by decide +kernel
theorem dX6_markOf_6 : decode cX6_markOf 6 = .ok (.invokestatic 159, 3) := by decide +kernel
theorem dX6_markOf_9 : decode cX6_markOf 9 = .ok (.istore_n 2, 1) := by decide +kernel
theorem dX6_markOf_10 : decode cX6_markOf 10 = .ok (.iload_n 2, 1) := by decide +kernel
theorem dX6_markOf_11 : decode cX6_markOf 11 = .ok (.iconst 4, 1) := by decide +kernel
theorem dX6_markOf_12 : decode cX6_markOf 12 = .ok (.if_icmp .lt 23, 3) := by decide +kernel
theorem dX6_markOf_15 : decode cX6_markOf 15 = .ok (.aload_n 0, 1) := by decide +kernel
theorem dX6_markOf_16 : decode cX6_markOf 16 = .ok (.bipush 23, 2) := by decide +kernel
theorem dX6_markOf_18 : decode cX6_markOf 18 = .ok (.invokevirtual 255, 3) := by decide +kernel
theorem dX6_markOf_21 : decode cX6_markOf 21 = .ok (.aload_n 0, 1) := by decide +kernel
theorem dX6_markOf_22 : decode cX6_markOf 22 = .ok (.bipush 20, 2) := by decide +kernel
theorem dX6_markOf_24 : decode cX6_markOf 24 = .ok (.invokevirtual 255, 3) := by decide +kernel
theorem dX6_markOf_27 : decode cX6_markOf 27 = .ok (.iload_n 1, 1) := by decide +kernel
theorem dX6_markOf_28 : decode cX6_markOf 28 = .ok (.aload_n 0, 1) := by decide +kernel
theorem dX6_markOf_29 : decode cX6_markOf 29 = .ok (.iload_n 1, 1) := by decide +kernel
theorem dX6_markOf_30 : decode cX6_markOf 30 = .ok (.invokevirtual 261, 3) := by decide +kernel
theorem dX6_markOf_33 : decode cX6_markOf 33 = .ok (.isub, 1) := by decide +kernel
theorem dX6_markOf_34 : decode cX6_markOf 34 = .ok (.ireturn, 1) := by decide +kernel
theorem dX6_markOf_35 : decode cX6_markOf 35 = .ok (.iload_n 2, 1) := by decide +kernel
theorem dX6_markOf_36 : decode cX6_markOf 36 = .ok (.iconst 1, 1) := by decide +kernel
theorem dX6_markOf_37 : decode cX6_markOf 37 = .ok (.if_icmp .eq 19, 3) := by decide +kernel
theorem dX6_markOf_40 : decode cX6_markOf 40 = .ok (.aload_n 0, 1) := by decide +kernel
theorem dX6_markOf_41 : decode cX6_markOf 41 = .ok (.iload_n 2, 1) := by decide +kernel
theorem dX6_markOf_42 : decode cX6_markOf 42 = .ok (.iconst 3, 1) := by decide +kernel
theorem dX6_markOf_43 : decode cX6_markOf 43 = .ok (.if_icmp .ne 8, 3) := by decide +kernel
theorem dX6_markOf_46 : decode cX6_markOf 46 = .ok (.bipush 22, 2) := by decide +kernel
theorem dX6_markOf_48 : decode cX6_markOf 48 = .ok (.goto 5, 3) := by decide +kernel
theorem dX6_markOf_51 : decode cX6_markOf 51 = .ok (.bipush 24, 2) := by decide +kernel
theorem dX6_markOf_53 : decode cX6_markOf 53 = .ok (.invokevirtual 255, 3) := by decide +kernel
theorem dX6_markOf_56 : decode cX6_markOf 56 = .ok (.aload_n 0, 1) := by decide +kernel
theorem dX6_markOf_57 : decode cX6_markOf 57 = .ok (.bipush 21, 2) := by decide +kernel
theorem dX6_markOf_59 : decode cX6_markOf 59 = .ok (.invokevirtual 255, 3) := by decide +kernel
theorem dX6_markOf_62 : decode cX6_markOf 62 = .ok (.aload_n 0, 1) := by decide +kernel
theorem dX6_markOf_63 : decode cX6_markOf 63 = .ok (.bipush 20, 2) := by decide +kernel
theorem dX6_markOf_65 : decode cX6_markOf 65 = .ok (.invokevirtual 255, 3) := by decide +kernel
theorem dX6_markOf_68 : decode cX6_markOf 68 = .ok (.iload_n 1, 1) := by decide +kernel
theorem dX6_markOf_69 : decode cX6_markOf 69 = .ok (.aload_n 0, 1) := by decide +kernel
theorem dX6_markOf_70 : decode cX6_markOf 70 = .ok (.getfield 19, 3) := by decide +kernel
theorem dX6_markOf_73 : decode cX6_markOf 73 = .ok (.iload_n 1, 1) := by decide +kernel
theorem dX6_markOf_74 : decode cX6_markOf 74 = .ok (.bipush 6, 2) := by decide +kernel
theorem dX6_markOf_76 : decode cX6_markOf 76 = .ok (.invokestatic 159, 3) := by decide +kernel
theorem dX6_markOf_79 : decode cX6_markOf 79 = .ok (.iadd, 1) := by decide +kernel
theorem dX6_markOf_80 : decode cX6_markOf 80 = .ok (.istore_n 3, 1) := by decide +kernel
theorem dX6_markOf_81 : decode cX6_markOf 81 = .ok (.iload_n 2, 1) := by decide +kernel
theorem dX6_markOf_82 : decode cX6_markOf 82 = .ok (.iconst 1, 1) := by decide +kernel
theorem dX6_markOf_83 : decode cX6_markOf 83 = .ok (.if_icmp .ne 7, 3) := by decide +kernel
theorem dX6_markOf_86 : decode cX6_markOf 86 = .ok (.iload_n 3, 1) := by decide +kernel
theorem dX6_markOf_87 : decode cX6_markOf 87 = .ok (.goto 19, 3) := by decide +kernel
theorem dX6_markOf_90 : decode cX6_markOf 90 = .ok (.iload_n 2, 1) := by decide +kernel
theorem dX6_markOf_91 : decode cX6_markOf 91 = .ok (.iconst 3, 1) := by decide +kernel
theorem dX6_markOf_92 : decode cX6_markOf 92 = .ok (.if_icmp .ne 11, 3) := by decide +kernel
theorem dX6_markOf_95 : decode cX6_markOf 95 = .ok (.iload_n 3, 1) := by decide +kernel
theorem dX6_markOf_96 : decode cX6_markOf 96 = .ok (.sipush 1000, 3) := by decide +kernel
theorem dX6_markOf_99 : decode cX6_markOf 99 = .ok (.isub, 1) := by decide +kernel
theorem dX6_markOf_100 : decode cX6_markOf 100 = .ok (.goto 6, 3) := by decide +kernel
theorem dX6_markOf_103 : decode cX6_markOf 103 = .ok (.iconst 2, 1) := by decide +kernel
theorem dX6_markOf_104 : decode cX6_markOf 104 = .ok (.iload_n 3, 1) := by decide +kernel
theorem dX6_markOf_105 : decode cX6_markOf 105 = .ok (.imul, 1) := by decide +kernel
theorem dX6_markOf_106 : decode cX6_markOf 106 = .ok (.ireturn, 1) := by decide +kernel
theorem dX6_sizeOf_0 : decode cX6_sizeOf 0 = .ok (.aload_n 0, 1) := by decide +kernel
theorem dX6_sizeOf_1 : decode cX6_sizeOf 1 = .ok (.getfield 19, 3) := by decide +kernel
theorem dX6_sizeOf_4 : decode cX6_sizeOf 4 = .ok (.iload_n 1, 1) := by decide +kernel
theorem dX6_sizeOf_5 : decode cX6_sizeOf 5 = .ok (.iconst 0, 1) := by decide +kernel
theorem dX6_sizeOf_6 : decode cX6_sizeOf 6 = .ok (.invokestatic 159, 3) := by decide +kernel
theorem dX6_sizeOf_9 : decode cX6_sizeOf 9 = .ok (.istore_n 2, 1) := by decide +kernel
theorem dX6_sizeOf_10 : decode cX6_sizeOf 10 = .ok (.iload_n 2, 1) := by decide +kernel
theorem dX6_sizeOf_11 : decode cX6_sizeOf 11 = .ok (.iconst 4, 1) := by decide +kernel
theorem dX6_sizeOf_12 : decode cX6_sizeOf 12 = .ok (.if_icmp .lt 9, 3) := by decide +kernel
theorem dX6_sizeOf_15 : decode cX6_sizeOf 15 = .ok (.aload_n 0, 1) := by decide +kernel
theorem dX6_sizeOf_16 : decode cX6_sizeOf 16 = .ok (.iload_n 1, 1) := by decide +kernel
theorem dX6_sizeOf_17 : decode cX6_sizeOf 17 = .ok (.invokevirtual 261, 3) := by decide +kernel
theorem dX6_sizeOf_20 : decode cX6_sizeOf 20 = .ok (.ireturn, 1) := by decide +kernel
theorem dX6_sizeOf_21 : decode cX6_sizeOf 21 = .ok (.iload_n 2, 1) := by decide +kernel
theorem dX6_sizeOf_22 : decode cX6_sizeOf 22 = .ok (.iconst 2, 1) := by decide +kernel
theorem dX6_sizeOf_23 : decode cX6_sizeOf 23 = .ok (.if_icmp .ne 9, 3) := by decide +kernel
theorem dX6_sizeOf_26 : decode cX6_sizeOf 26 = .ok (.aload_n 0, 1) := by decide +kernel
theorem dX6_sizeOf_27 : decode cX6_sizeOf 27 = .ok (.bipush 12, 2) := by decide +kernel
theorem dX6_sizeOf_29 : decode cX6_sizeOf 29 = .ok (.invokevirtual 255, 3) := by decide +kernel
theorem dX6_sizeOf_32 : decode cX6_sizeOf 32 = .ok (.aload_n 0, 1) := by decide +kernel
theorem dX6_sizeOf_33 : decode cX6_sizeOf 33 = .ok (.bipush 11, 2) := by decide +kernel
theorem dX6_sizeOf_35 : decode cX6_sizeOf 35 = .ok (.invokevirtual 255, 3) := by decide +kernel
theorem dX6_sizeOf_38 : decode cX6_sizeOf 38 = .ok (.aload_n 0, 1) := by decide +kernel
theorem dX6_sizeOf_39 : decode cX6_sizeOf 39 = .ok (.iload_n 1, 1) := by decide +kernel
theorem dX6_sizeOf_40 : decode cX6_sizeOf 40 = .ok (.invokevirtual 258, 3) := by decide +kernel
theorem dX6_sizeOf_43 : decode cX6_sizeOf 43 = .ok (.istore_n 3, 1) := by decide +kernel
theorem dX6_sizeOf_44 : decode cX6_sizeOf 44 = .ok (.iload_n 3, 1) := by decide +kernel
theorem dX6_sizeOf_45 : decode cX6_sizeOf 45 = .ok (.aload_n 0, 1) := by decide +kernel
theorem dX6_sizeOf_46 : decode cX6_sizeOf 46 = .ok (.iload_n 1, 1) := by decide +kernel
theorem dX6_sizeOf_47 : decode cX6_sizeOf 47 = .ok (.invokevirtual 264, 3) := by decide +kernel
theorem dX6_sizeOf_50 : decode cX6_sizeOf 50 = .ok (.iadd, 1) := by decide +kernel
theorem dX6_sizeOf_51 : decode cX6_sizeOf 51 = .ok (.istore_n 3, 1) := by decide +kernel
theorem dX6_sizeOf_52 : decode cX6_sizeOf 52 = .ok (.iload_n 2, 1) := by decide +kernel
theorem dX6_sizeOf_53 : decode cX6_sizeOf 53 = .ok (.iconst 2, 1) := by decide +kernel
theorem dX6_sizeOf_54 : decode cX6_sizeOf 54 = .ok (.if_icmp .ne 8, 3) := by decide +kernel
theorem dX6_sizeOf_57 : decode cX6_sizeOf 57 = .ok (.iload_n 3, 1) := by decide +kernel
theorem dX6_sizeOf_58 : decode cX6_sizeOf 58 = .ok (.ineg, 1) := by decide +kernel
theorem dX6_sizeOf_59 : decode cX6_sizeOf 59 = .ok (.goto 4, 3) := by decide +kernel
theorem dX6_sizeOf_62 : decode cX6_sizeOf 62 = .ok (.iload_n 3, 1) := by decide +kernel
theorem dX6_sizeOf_63 : decode cX6_sizeOf 63 = .ok (.ireturn, 1) := by decide +kernel
theorem dX6_ask_0 : decode cX6_ask 0 = .ok (.aload_n 0, 1) := by decide +kernel
theorem dX6_ask_1 : decode cX6_ask 1 = .ok (.iconst 0, 1) := by decide +kernel
theorem dX6_ask_2 : decode cX6_ask 2 = .ok (.putfield 54, 3) := by decide +kernel
theorem dX6_ask_5 : decode cX6_ask 5 = .ok (.aload_n 0, 1) := by decide +kernel
theorem dX6_ask_6 : decode cX6_ask 6 = .ok (.iload_n 1, 1) := by decide +kernel
theorem dX6_ask_7 : decode cX6_ask 7 = .ok (.invokevirtual 202, 3) := by decide +kernel
theorem dX6_ask_10 : decode cX6_ask 10 = .ok (.ifCond .eq 13, 3) := by decide +kernel
theorem dX6_ask_13 : decode cX6_ask 13 = .ok (.iload_n 2, 1) := by decide +kernel
theorem dX6_ask_14 : decode cX6_ask 14 = .ok (.i2l, 1) := by decide +kernel
theorem dX6_ask_15 : decode cX6_ask 15 = .ok (.lconst 0, 1) := by decide +kernel
theorem dX6_ask_16 : decode cX6_ask 16 = .ok (.lconst 1, 1) := by decide +kernel
theorem dX6_ask_17 : decode cX6_ask 17 = .ok (.invokestatic 64, 3) := by decide +kernel
theorem dX6_ask_20 : decode cX6_ask 20 = .ok (.ifCond .ne 6, 3) := by decide +kernel
theorem dX6_ask_23 : decode cX6_ask 23 = .ok (.ldc 74, 2) := by decide +kernel
theorem dX6_ask_25 : decode cX6_ask 25 = .ok (.ireturn, 1) := by decide +kernel
theorem dX6_ask_26 : decode cX6_ask 26 = .ok (.aload_n 0, 1) := by decide +kernel
theorem dX6_ask_27 : decode cX6_ask 27 = .ok (.iconst 0, 1) := by decide +kernel
theorem dX6_ask_28 : decode cX6_ask 28 = .ok (.putfield 252, 3) := by decide +kernel
theorem dX6_ask_31 : decode cX6_ask 31 = .ok (.iload_n 2, 1) := by decide +kernel
theorem dX6_ask_32 : decode cX6_ask 32 = .ok (.ifCond .ne 11, 3) := by decide +kernel
theorem dX6_ask_35 : decode cX6_ask 35 = .ok (.aload_n 0, 1) := by decide +kernel
theorem dX6_ask_36 : decode cX6_ask 36 = .ok (.iload_n 1, 1) := by decide +kernel
theorem dX6_ask_37 : decode cX6_ask 37 = .ok (.invokevirtual 267, 3) := by decide +kernel
theorem dX6_ask_40 : decode cX6_ask 40 = .ok (.goto 8, 3) := by decide +kernel
theorem dX6_ask_43 : decode cX6_ask 43 = .ok (.aload_n 0, 1) := by decide +kernel
theorem dX6_ask_44 : decode cX6_ask 44 = .ok (.iload_n 1, 1) := by decide +kernel
theorem dX6_ask_45 : decode cX6_ask 45 = .ok (.invokevirtual 264, 3) := by decide +kernel
theorem dX6_ask_48 : decode cX6_ask 48 = .ok (.ireturn, 1) := by decide +kernel
theorem dX6_trace_0 : decode cX6_trace 0 = .ok (.aload_n 0, 1) := by decide +kernel
theorem dX6_trace_1 : decode cX6_trace 1 = .ok (.iconst 0, 1) := by decide +kernel
theorem dX6_trace_2 : decode cX6_trace 2 = .ok (.putfield 54, 3) := by decide +kernel
theorem dX6_trace_5 : decode cX6_trace 5 = .ok (.iload_n 1, 1) := by decide +kernel
theorem dX6_trace_6 : decode cX6_trace 6 = .ok (.i2l, 1) := by decide +kernel
theorem dX6_trace_7 : decode cX6_trace 7 = .ok (.lconst 0, 1) := by decide +kernel
theorem dX6_trace_8 : decode cX6_trace 8 = .ok (.aload_n 0, 1) := by decide +kernel
theorem dX6_trace_9 : decode cX6_trace 9 = .ok (.getfield 252, 3) := by decide +kernel
theorem dX6_trace_12 : decode cX6_trace 12 = .ok (.iconst 1, 1) := by decide +kernel
theorem dX6_trace_13 : decode cX6_trace 13 = .ok (.isub, 1) := by decide +kernel
theorem dX6_trace_14 : decode cX6_trace 14 = .ok (.i2l, 1) := by decide +kernel
theorem dX6_trace_15 : decode cX6_trace 15 = .ok (.invokestatic 64, 3) := by decide +kernel
theorem dX6_trace_18 : decode cX6_trace 18 = .ok (.ifCond .eq 12, 3) := by decide +kernel
theorem dX6_trace_21 : decode cX6_trace 21 = .ok (.aload_n 0, 1) := by decide +kernel
theorem dX6_trace_22 : decode cX6_trace 22 = .ok (.getfield 51, 3) := by decide +kernel
theorem dX6_trace_25 : decode cX6_trace 25 = .ok (.iload_n 1, 1) := by decide +kernel
theorem dX6_trace_26 : decode cX6_trace 26 = .ok (.iaload, 1) := by decide +kernel
theorem dX6_trace_27 : decode cX6_trace 27 = .ok (.goto 5, 3) := by decide +kernel
theorem dX6_trace_30 : decode cX6_trace 30 = .ok (.ldc 97, 2) := by decide +kernel
theorem dX6_trace_32 : decode cX6_trace 32 = .ok (.ireturn, 1) := by decide +kernel
theorem dX6_count_0 : decode cX6_count 0 = .ok (.aload_n 0, 1) := by decide +kernel
theorem dX6_count_1 : decode cX6_count 1 = .ok (.iconst 0, 1) := by decide +kernel
theorem dX6_count_2 : decode cX6_count 2 = .ok (.putfield 54, 3) := by decide +kernel
theorem dX6_count_5 : decode cX6_count 5 = .ok (.iconst 0, 1) := by decide +kernel
theorem dX6_count_6 : decode cX6_count 6 = .ok (.istore_n 2, 1) := by decide +kernel
theorem dX6_count_7 : decode cX6_count 7 = .ok (.iload_n 1, 1) := by decide +kernel
theorem dX6_count_8 : decode cX6_count 8 = .ok (.tableswitch 162 0 9 #[56, 89, 96, 103, 110, 118, 136, 144, 152, 157], 56) := by decide +kernel
theorem dX6_count_64 : decode cX6_count 64 = .ok (.iconst 0, 1) := by decide +kernel
theorem dX6_count_65 : decode cX6_count 65 = .ok (.istore_n 3, 1) := by decide +kernel
theorem dX6_count_66 : decode cX6_count 66 = .ok (.iload_n 3, 1) := by decide +kernel
theorem dX6_count_67 : decode cX6_count 67 = .ok (.bipush 8, 2) := by decide +kernel
theorem dX6_count_69 : decode cX6_count 69 = .ok (.if_icmp .ge 26, 3) := by decide +kernel
theorem dX6_count_72 : decode cX6_count 72 = .ok (.iload_n 2, 1) := by decide +kernel
theorem dX6_count_73 : decode cX6_count 73 = .ok (.aload_n 0, 1) := by decide +kernel
theorem dX6_count_74 : decode cX6_count 74 = .ok (.getfield 7, 3) := by decide +kernel
theorem dX6_count_77 : decode cX6_count 77 = .ok (.iload_n 3, 1) := by decide +kernel
theorem dX6_count_78 : decode cX6_count 78 = .ok (.iaload, 1) := by decide +kernel
theorem dX6_count_79 : decode cX6_count 79 = .ok (.ifCond .lt 7, 3) := by decide +kernel
theorem dX6_count_82 : decode cX6_count 82 = .ok (.iconst 1, 1) := by decide +kernel
theorem dX6_count_83 : decode cX6_count 83 = .ok (.goto 4, 3) := by decide +kernel
theorem dX6_count_86 : decode cX6_count 86 = .ok (.iconst 0, 1) := by decide +kernel
theorem dX6_count_87 : decode cX6_count 87 = .ok (.iadd, 1) := by decide +kernel
theorem dX6_count_88 : decode cX6_count 88 = .ok (.istore_n 2, 1) := by decide +kernel
theorem dX6_count_89 : decode cX6_count 89 = .ok (.iinc 3 1, 3) := by decide +kernel
theorem dX6_count_92 : decode cX6_count 92 = .ok (.goto (-26), 3) := by decide +kernel
theorem dX6_count_95 : decode cX6_count 95 = .ok (.iload_n 2, 1) := by decide +kernel
theorem dX6_count_96 : decode cX6_count 96 = .ok (.ireturn, 1) := by decide +kernel
theorem dX6_count_97 : decode cX6_count 97 = .ok (.aload_n 0, 1) := by decide +kernel
theorem dX6_count_98 : decode cX6_count 98 = .ok (.getfield 19, 3) := by decide +kernel
theorem dX6_count_101 : decode cX6_count 101 = .ok (.iconst 0, 1) := by decide +kernel
theorem dX6_count_102 : decode cX6_count 102 = .ok (.iaload, 1) := by decide +kernel
theorem dX6_count_103 : decode cX6_count 103 = .ok (.ireturn, 1) := by decide +kernel
theorem dX6_count_104 : decode cX6_count 104 = .ok (.aload_n 0, 1) := by decide +kernel
theorem dX6_count_105 : decode cX6_count 105 = .ok (.getfield 19, 3) := by decide +kernel
theorem dX6_count_108 : decode cX6_count 108 = .ok (.iconst 4, 1) := by decide +kernel
theorem dX6_count_109 : decode cX6_count 109 = .ok (.iaload, 1) := by decide +kernel
theorem dX6_count_110 : decode cX6_count 110 = .ok (.ireturn, 1) := by decide +kernel
theorem dX6_count_111 : decode cX6_count 111 = .ok (.aload_n 0, 1) := by decide +kernel
theorem dX6_count_112 : decode cX6_count 112 = .ok (.getfield 19, 3) := by decide +kernel
theorem dX6_count_115 : decode cX6_count 115 = .ok (.iconst 5, 1) := by decide +kernel
theorem dX6_count_116 : decode cX6_count 116 = .ok (.iaload, 1) := by decide +kernel
theorem dX6_count_117 : decode cX6_count 117 = .ok (.ireturn, 1) := by decide +kernel
theorem dX6_count_118 : decode cX6_count 118 = .ok (.aload_n 0, 1) := by decide +kernel
theorem dX6_count_119 : decode cX6_count 119 = .ok (.getfield 19, 3) := by decide +kernel
theorem dX6_count_122 : decode cX6_count 122 = .ok (.bipush 6, 2) := by decide +kernel
theorem dX6_count_124 : decode cX6_count 124 = .ok (.iaload, 1) := by decide +kernel
theorem dX6_count_125 : decode cX6_count 125 = .ok (.ireturn, 1) := by decide +kernel
theorem dX6_count_126 : decode cX6_count 126 = .ok (.aload_n 0, 1) := by decide +kernel
theorem dX6_count_127 : decode cX6_count 127 = .ok (.invokevirtual 193, 3) := by decide +kernel
theorem dX6_count_130 : decode cX6_count 130 = .ok (.ifCond .eq 12, 3) := by decide +kernel
theorem dX6_count_133 : decode cX6_count 133 = .ok (.aload_n 0, 1) := by decide +kernel
theorem dX6_count_134 : decode cX6_count 134 = .ok (.getfield 19, 3) := by decide +kernel
theorem dX6_count_137 : decode cX6_count 137 = .ok (.iconst 1, 1) := by decide +kernel
theorem dX6_count_138 : decode cX6_count 138 = .ok (.iaload, 1) := by decide +kernel
theorem dX6_count_139 : decode cX6_count 139 = .ok (.goto 4, 3) := by decide +kernel
theorem dX6_count_142 : decode cX6_count 142 = .ok (.iconst (-1), 1) := by decide +kernel
theorem dX6_count_143 : decode cX6_count 143 = .ok (.ireturn, 1) := by decide +kernel
theorem dX6_count_144 : decode cX6_count 144 = .ok (.aload_n 0, 1) := by decide +kernel
theorem dX6_count_145 : decode cX6_count 145 = .ok (.getfield 19, 3) := by decide +kernel
theorem dX6_count_148 : decode cX6_count 148 = .ok (.bipush 7, 2) := by decide +kernel
theorem dX6_count_150 : decode cX6_count 150 = .ok (.iaload, 1) := by decide +kernel
theorem dX6_count_151 : decode cX6_count 151 = .ok (.ireturn, 1) := by decide +kernel
theorem dX6_count_152 : decode cX6_count 152 = .ok (.aload_n 0, 1) := by decide +kernel
theorem dX6_count_153 : decode cX6_count 153 = .ok (.getfield 19, 3) := by decide +kernel
theorem dX6_count_156 : decode cX6_count 156 = .ok (.bipush 8, 2) := by decide +kernel
theorem dX6_count_158 : decode cX6_count 158 = .ok (.iaload, 1) := by decide +kernel
theorem dX6_count_159 : decode cX6_count 159 = .ok (.ireturn, 1) := by decide +kernel
theorem dX6_count_160 : decode cX6_count 160 = .ok (.aload_n 0, 1) := by decide +kernel
theorem dX6_count_161 : decode cX6_count 161 = .ok (.getfield 153, 3) := by decide +kernel
theorem dX6_count_164 : decode cX6_count 164 = .ok (.ireturn, 1) := by decide +kernel
theorem dX6_count_165 : decode cX6_count 165 = .ok (.aload_n 0, 1) := by decide +kernel
theorem dX6_count_166 : decode cX6_count 166 = .ok (.getfield 81, 3) := by decide +kernel
theorem dX6_count_169 : decode cX6_count 169 = .ok (.ireturn, 1) := by decide +kernel
theorem dX6_count_170 : decode cX6_count 170 = .ok (.ldc 74, 2) := by decide +kernel
theorem dX6_count_172 : decode cX6_count 172 = .ok (.ireturn, 1) := by decide +kernel
theorem dX6_status_0 : decode cX6_status 0 = .ok (.aload_n 0, 1) := by decide +kernel
theorem dX6_status_1 : decode cX6_status 1 = .ok (.iconst 0, 1) := by decide +kernel
theorem dX6_status_2 : decode cX6_status 2 = .ok (.putfield 54, 3) := by decide +kernel
theorem dX6_status_5 : decode cX6_status 5 = .ok (.aload_n 0, 1) := by decide +kernel
theorem dX6_status_6 : decode cX6_status 6 = .ok (.getfield 58, 3) := by decide +kernel
theorem dX6_status_9 : decode cX6_status 9 = .ok (.ireturn, 1) := by decide +kernel
theorem dJ6_bitCount_0f7a4_0 : decode cJ6_bitCount_0f7a4 0 = .ok (.iload_n 0, 1) := by decide +kernel
theorem dJ6_bitCount_0f7a4_1 : decode cJ6_bitCount_0f7a4 1 = .ok (.iload_n 0, 1) := by decide +kernel
theorem dJ6_bitCount_0f7a4_2 : decode cJ6_bitCount_0f7a4 2 = .ok (.iconst 1, 1) := by decide +kernel
theorem dJ6_bitCount_0f7a4_3 : decode cJ6_bitCount_0f7a4 3 = .ok (.iushr, 1) := by decide +kernel
theorem dJ6_bitCount_0f7a4_4 : decode cJ6_bitCount_0f7a4 4 = .ok (.ldc_w 265, 3) := by decide +kernel
theorem dJ6_bitCount_0f7a4_7 : decode cJ6_bitCount_0f7a4 7 = .ok (.iand, 1) := by decide +kernel
theorem dJ6_bitCount_0f7a4_8 : decode cJ6_bitCount_0f7a4 8 = .ok (.isub, 1) := by decide +kernel
theorem dJ6_bitCount_0f7a4_9 : decode cJ6_bitCount_0f7a4 9 = .ok (.istore_n 0, 1) := by decide +kernel
theorem dJ6_bitCount_0f7a4_10 : decode cJ6_bitCount_0f7a4 10 = .ok (.iload_n 0, 1) := by decide +kernel
theorem dJ6_bitCount_0f7a4_11 : decode cJ6_bitCount_0f7a4 11 = .ok (.ldc_w 266, 3) := by decide +kernel
theorem dJ6_bitCount_0f7a4_14 : decode cJ6_bitCount_0f7a4 14 = .ok (.iand, 1) := by decide +kernel
theorem dJ6_bitCount_0f7a4_15 : decode cJ6_bitCount_0f7a4 15 = .ok (.iload_n 0, 1) := by decide +kernel
theorem dJ6_bitCount_0f7a4_16 : decode cJ6_bitCount_0f7a4 16 = .ok (.iconst 2, 1) := by decide +kernel
theorem dJ6_bitCount_0f7a4_17 : decode cJ6_bitCount_0f7a4 17 = .ok (.iushr, 1) := by decide +kernel
theorem dJ6_bitCount_0f7a4_18 : decode cJ6_bitCount_0f7a4 18 = .ok (.ldc_w 266, 3) := by decide +kernel
theorem dJ6_bitCount_0f7a4_21 : decode cJ6_bitCount_0f7a4 21 = .ok (.iand, 1) := by decide +kernel
theorem dJ6_bitCount_0f7a4_22 : decode cJ6_bitCount_0f7a4 22 = .ok (.iadd, 1) := by decide +kernel
theorem dJ6_bitCount_0f7a4_23 : decode cJ6_bitCount_0f7a4 23 = .ok (.istore_n 0, 1) := by decide +kernel
theorem dJ6_bitCount_0f7a4_24 : decode cJ6_bitCount_0f7a4 24 = .ok (.iload_n 0, 1) := by decide +kernel
theorem dJ6_bitCount_0f7a4_25 : decode cJ6_bitCount_0f7a4 25 = .ok (.iload_n 0, 1) := by decide +kernel
theorem dJ6_bitCount_0f7a4_26 : decode cJ6_bitCount_0f7a4 26 = .ok (.iconst 4, 1) := by decide +kernel
theorem dJ6_bitCount_0f7a4_27 : decode cJ6_bitCount_0f7a4 27 = .ok (.iushr, 1) := by decide +kernel
theorem dJ6_bitCount_0f7a4_28 : decode cJ6_bitCount_0f7a4 28 = .ok (.iadd, 1) := by decide +kernel
theorem dJ6_bitCount_0f7a4_29 : decode cJ6_bitCount_0f7a4 29 = .ok (.ldc_w 267, 3) := by decide +kernel
theorem dJ6_bitCount_0f7a4_32 : decode cJ6_bitCount_0f7a4 32 = .ok (.iand, 1) := by decide +kernel
theorem dJ6_bitCount_0f7a4_33 : decode cJ6_bitCount_0f7a4 33 = .ok (.istore_n 0, 1) := by decide +kernel
theorem dJ6_bitCount_0f7a4_34 : decode cJ6_bitCount_0f7a4 34 = .ok (.iload_n 0, 1) := by decide +kernel
theorem dJ6_bitCount_0f7a4_35 : decode cJ6_bitCount_0f7a4 35 = .ok (.iload_n 0, 1) := by decide +kernel
theorem dJ6_bitCount_0f7a4_36 : decode cJ6_bitCount_0f7a4 36 = .ok (.bipush 8, 2) := by decide +kernel
theorem dJ6_bitCount_0f7a4_38 : decode cJ6_bitCount_0f7a4 38 = .ok (.iushr, 1) := by decide +kernel
theorem dJ6_bitCount_0f7a4_39 : decode cJ6_bitCount_0f7a4 39 = .ok (.iadd, 1) := by decide +kernel
theorem dJ6_bitCount_0f7a4_40 : decode cJ6_bitCount_0f7a4 40 = .ok (.istore_n 0, 1) := by decide +kernel
theorem dJ6_bitCount_0f7a4_41 : decode cJ6_bitCount_0f7a4 41 = .ok (.iload_n 0, 1) := by decide +kernel
theorem dJ6_bitCount_0f7a4_42 : decode cJ6_bitCount_0f7a4 42 = .ok (.iload_n 0, 1) := by decide +kernel
theorem dJ6_bitCount_0f7a4_43 : decode cJ6_bitCount_0f7a4 43 = .ok (.bipush 16, 2) := by decide +kernel
theorem dJ6_bitCount_0f7a4_45 : decode cJ6_bitCount_0f7a4 45 = .ok (.iushr, 1) := by decide +kernel
theorem dJ6_bitCount_0f7a4_46 : decode cJ6_bitCount_0f7a4 46 = .ok (.iadd, 1) := by decide +kernel
theorem dJ6_bitCount_0f7a4_47 : decode cJ6_bitCount_0f7a4 47 = .ok (.istore_n 0, 1) := by decide +kernel
theorem dJ6_bitCount_0f7a4_48 : decode cJ6_bitCount_0f7a4 48 = .ok (.iload_n 0, 1) := by decide +kernel
