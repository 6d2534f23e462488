theorem dX5_comes_35 : decode cX5_comes 35 = .ok (.aload_n 0, 1) := by decide +kernel
theorem dX5_comes_36 : decode cX5_comes 36 = .ok (.getfield 33, 3) := by decide +kernel
theorem dX5_comes_39 : decode cX5_comes 39 = .ok (.invokevirtual 140, 3) := by decide +kernel
theorem dX5_comes_42 : decode cX5_comes 42 = .ok (.iconst 0, 1) := by decide +kernel
theorem dX5_comes_43 : decode cX5_comes 43 = .ok (.istore_n 3, 1) := by decide +kernel
theorem dX5_comes_44 : decode cX5_comes 44 = .ok (.iload_n 3, 1) := by decide +kernel
theorem dX5_comes_45 : decode cX5_comes 45 = .ok (.iload_n 2, 1) := by decide +kernel
theorem dX5_comes_46 : decode cX5_comes 46 = .ok (.if_icmp .ge 33, 3) := by decide +kernel
theorem dX5_comes_49 : decode cX5_comes 49 = .ok (.aload_n 0, 1) := by decide +kernel
theorem dX5_comes_50 : decode cX5_comes 50 = .ok (.getfield 44, 3) := by decide +kernel
theorem dX5_comes_53 : decode cX5_comes 53 = .ok (.getfield 169, 3) := by decide +kernel
theorem dX5_comes_56 : decode cX5_comes 56 = .ok (.iload_n 1, 1) := by decide +kernel
theorem dX5_comes_57 : decode cX5_comes 57 = .ok (.if_icmp .ne 5, 3) := by decide +kernel
theorem dX5_comes_60 : decode cX5_comes 60 = .ok (.iload_n 3, 1) := by decide +kernel
theorem dX5_comes_61 : decode cX5_comes 61 = .ok (.ireturn, 1) := by decide +kernel
theorem dX5_comes_62 : decode cX5_comes 62 = .ok (.aload_n 0, 1) := by decide +kernel
theorem dX5_comes_63 : decode cX5_comes 63 = .ok (.getfield 44, 3) := by decide +kernel
theorem dX5_comes_66 : decode cX5_comes 66 = .ok (.aload_n 0, 1) := by decide +kernel
theorem dX5_comes_67 : decode cX5_comes 67 = .ok (.getfield 26, 3) := by decide +kernel
theorem dX5_comes_70 : decode cX5_comes 70 = .ok (.invokevirtual 166, 3) := by decide +kernel
theorem dX5_comes_73 : decode cX5_comes 73 = .ok (.iinc 3 1, 3) := by decide +kernel
theorem dX5_comes_76 : decode cX5_comes 76 = .ok (.goto (-32), 3) := by decide +kernel
theorem dX5_comes_79 : decode cX5_comes 79 = .ok (.aload_n 0, 1) := by decide +kernel
theorem dX5_comes_80 : decode cX5_comes 80 = .ok (.getfield 44, 3) := by decide +kernel
theorem dX5_comes_83 : decode cX5_comes 83 = .ok (.getfield 169, 3) := by decide +kernel
theorem dX5_comes_86 : decode cX5_comes 86 = .ok (.iload_n 1, 1) := by decide +kernel
theorem dX5_comes_87 : decode cX5_comes 87 = .ok (.if_icmp .ne 7, 3) := by decide +kernel
theorem dX5_comes_90 : decode cX5_comes 90 = .ok (.iload_n 2, 1) := by decide +kernel
theorem dX5_comes_91 : decode cX5_comes 91 = .ok (.goto 5, 3) := by decide +kernel
theorem dX5_comes_94 : decode cX5_comes 94 = .ok (.ldc 232, 2) := by decide +kernel
theorem dX5_comes_96 : decode cX5_comes 96 = .ok (.ireturn, 1) := by decide +kernel
theorem dX5_visits_0 : decode cX5_visits 0 = .ok (.aload_n 0, 1) := by decide +kernel
theorem dX5_visits_1 : decode cX5_visits 1 = .ok (.invokevirtual 156, 3) := by decide +kernel
theorem dX5_visits_4 : decode cX5_visits 4 = .ok (.ifCond .ne 6, 3) := by decide +kernel
theorem dX5_visits_7 : decode cX5_visits 7 = .ok (.ldc 152, 2) := by decide +kernel
theorem dX5_visits_9 : decode cX5_visits 9 = .ok (.ireturn, 1) := by decide +kernel
theorem dX5_visits_10 : decode cX5_visits 10 = .ok (.iload_n 1, 1) := by decide +kernel
theorem dX5_visits_11 : decode cX5_visits 11 = .ok (.iconst 0, 1) := by decide +kernel
theorem dX5_visits_12 : decode cX5_visits 12 = .ok (.bipush 60, 2) := by decide +kernel
theorem dX5_visits_14 : decode cX5_visits 14 = .ok (.invokestatic 73, 3) := by decide +kernel
theorem dX5_visits_17 : decode cX5_visits 17 = .ok (.ifCond .ne 6, 3) := by decide +kernel
theorem dX5_visits_20 : decode cX5_visits 20 = .ok (.ldc 77, 2) := by decide +kernel
theorem dX5_visits_22 : decode cX5_visits 22 = .ok (.ireturn, 1) := by decide +kernel
theorem dX5_visits_23 : decode cX5_visits 23 = .ok (.aload_n 0, 1) := by decide +kernel
theorem dX5_visits_24 : decode cX5_visits 24 = .ok (.getfield 44, 3) := by decide +kernel
theorem dX5_visits_27 : decode cX5_visits 27 = .ok (.aload_n 0, 1) := by decide +kernel
theorem dX5_visits_28 : decode cX5_visits 28 = .ok (.getfield 33, 3) := by decide +kernel
theorem dX5_visits_31 : decode cX5_visits 31 = .ok (.invokevirtual 140, 3) := by decide +kernel
theorem dX5_visits_34 : decode cX5_visits 34 = .ok (.iconst 1, 1) := by decide +kernel
theorem dX5_visits_35 : decode cX5_visits 35 = .ok (.aload_n 0, 1) := by decide +kernel
theorem dX5_visits_36 : decode cX5_visits 36 = .ok (.getfield 44, 3) := by decide +kernel
theorem dX5_visits_39 : decode cX5_visits 39 = .ok (.getfield 169, 3) := by decide +kernel
theorem dX5_visits_42 : decode cX5_visits 42 = .ok (.ishl, 1) := by decide +kernel
theorem dX5_visits_43 : decode cX5_visits 43 = .ok (.istore_n 2, 1) := by decide +kernel
theorem dX5_visits_44 : decode cX5_visits 44 = .ok (.iconst 0, 1) := by decide +kernel
theorem dX5_visits_45 : decode cX5_visits 45 = .ok (.istore_n 3, 1) := by decide +kernel
theorem dX5_visits_46 : decode cX5_visits 46 = .ok (.iload_n 3, 1) := by decide +kernel
theorem dX5_visits_47 : decode cX5_visits 47 = .ok (.iload_n 1, 1) := by decide +kernel
theorem dX5_visits_48 : decode cX5_visits 48 = .ok (.if_icmp .ge 32, 3) := by decide +kernel
theorem dX5_visits_51 : decode cX5_visits 51 = .ok (.aload_n 0, 1) := by decide +kernel
theorem dX5_visits_52 : decode cX5_visits 52 = .ok (.getfield 44, 3) := by decide +kernel
theorem dX5_visits_55 : decode cX5_visits 55 = .ok (.aload_n 0, 1) := by decide +kernel
theorem dX5_visits_56 : decode cX5_visits 56 = .ok (.getfield 26, 3) := by decide +kernel
theorem dX5_visits_59 : decode cX5_visits 59 = .ok (.invokevirtual 166, 3) := by decide +kernel
theorem dX5_visits_62 : decode cX5_visits 62 = .ok (.iload_n 2, 1) := by decide +kernel
theorem dX5_visits_63 : decode cX5_visits 63 = .ok (.iconst 1, 1) := by decide +kernel
theorem dX5_visits_64 : decode cX5_visits 64 = .ok (.aload_n 0, 1) := by decide +kernel
theorem dX5_visits_65 : decode cX5_visits 65 = .ok (.getfield 44, 3) := by decide +kernel
theorem dX5_visits_68 : decode cX5_visits 68 = .ok (.getfield 169, 3) := by decide +kernel
theorem dX5_visits_71 : decode cX5_visits 71 = .ok (.ishl, 1) := by decide +kernel
theorem dX5_visits_72 : decode cX5_visits 72 = .ok (.ior, 1) := by decide +kernel
theorem dX5_visits_73 : decode cX5_visits 73 = .ok (.istore_n 2, 1) := by decide +kernel
theorem dX5_visits_74 : decode cX5_visits 74 = .ok (.iinc 3 1, 3) := by decide +kernel
theorem dX5_visits_77 : decode cX5_visits 77 = .ok (.goto (-31), 3) := by decide +kernel
theorem dX5_visits_80 : decode cX5_visits 80 = .ok (.iload_n 2, 1) := by decide +kernel
theorem dX5_visits_81 : decode cX5_visits 81 = .ok (.ireturn, 1) := by decide +kernel
theorem dX5_fewest_0 : decode cX5_fewest 0 = .ok (.aload_n 0, 1) := by decide +kernel
theorem dX5_fewest_1 : decode cX5_fewest 1 = .ok (.invokevirtual 156, 3) := by decide +kernel
theorem dX5_fewest_4 : decode cX5_fewest 4 = .ok (.ifCond .ne 6, 3) := by decide +kernel
theorem dX5_fewest_7 : decode cX5_fewest 7 = .ok (.ldc 152, 2) := by decide +kernel
theorem dX5_fewest_9 : decode cX5_fewest 9 = .ok (.ireturn, 1) := by decide +kernel
theorem dX5_fewest_10 : decode cX5_fewest 10 = .ok (.aload_n 0, 1) := by decide +kernel
theorem dX5_fewest_11 : decode cX5_fewest 11 = .ok (.iload_n 1, 1) := by decide +kernel
theorem dX5_fewest_12 : decode cX5_fewest 12 = .ok (.invokevirtual 175, 3) := by decide +kernel
theorem dX5_fewest_15 : decode cX5_fewest 15 = .ok (.ifCond .eq 22, 3) := by decide +kernel
theorem dX5_fewest_18 : decode cX5_fewest 18 = .ok (.iload_n 2, 1) := by decide +kernel
theorem dX5_fewest_19 : decode cX5_fewest 19 = .ok (.iconst 1, 1) := by decide +kernel
theorem dX5_fewest_20 : decode cX5_fewest 20 = .ok (.bipush 24, 2) := by decide +kernel
theorem dX5_fewest_22 : decode cX5_fewest 22 = .ok (.invokestatic 73, 3) := by decide +kernel
theorem dX5_fewest_25 : decode cX5_fewest 25 = .ok (.ifCond .eq 12, 3) := by decide +kernel
theorem dX5_fewest_28 : decode cX5_fewest 28 = .ok (.iload_n 3, 1) := by decide +kernel
theorem dX5_fewest_29 : decode cX5_fewest 29 = .ok (.iconst 0, 1) := by decide +kernel
theorem dX5_fewest_30 : decode cX5_fewest 30 = .ok (.iconst 1, 1) := by decide +kernel
theorem dX5_fewest_31 : decode cX5_fewest 31 = .ok (.invokestatic 73, 3) := by decide +kernel
theorem dX5_fewest_34 : decode cX5_fewest 34 = .ok (.ifCond .ne 6, 3) := by decide +kernel
theorem dX5_fewest_37 : decode cX5_fewest 37 = .ok (.ldc 77, 2) := by decide +kernel
theorem dX5_fewest_39 : decode cX5_fewest 39 = .ok (.ireturn, 1) := by decide +kernel
theorem dX5_fewest_40 : decode cX5_fewest 40 = .ok (.bipush 7, 2) := by decide +kernel
theorem dX5_fewest_42 : decode cX5_fewest 42 = .ok (.istore 4, 2) := by decide +kernel
theorem dX5_fewest_44 : decode cX5_fewest 44 = .ok (.iconst 0, 1) := by decide +kernel
theorem dX5_fewest_45 : decode cX5_fewest 45 = .ok (.istore 5, 2) := by decide +kernel
theorem dX5_fewest_47 : decode cX5_fewest 47 = .ok (.iconst 0, 1) := by decide +kernel
theorem dX5_fewest_48 : decode cX5_fewest 48 = .ok (.istore 6, 2) := by decide +kernel
theorem dX5_fewest_50 : decode cX5_fewest 50 = .ok (.iload 6, 2) := by decide +kernel
theorem dX5_fewest_52 : decode cX5_fewest 52 = .ok (.aload_n 0, 1) := by decide +kernel
theorem dX5_fewest_53 : decode cX5_fewest 53 = .ok (.getfield 26, 3) := by decide +kernel
theorem dX5_fewest_56 : decode cX5_fewest 56 = .ok (.invokevirtual 233, 3) := by decide +kernel
theorem dX5_fewest_59 : decode cX5_fewest 59 = .ok (.if_icmp .gt 41, 3) := by decide +kernel
theorem dX5_fewest_62 : decode cX5_fewest 62 = .ok (.iload 6, 2) := by decide +kernel
theorem dX5_fewest_64 : decode cX5_fewest 64 = .ok (.invokestatic 191, 3) := by decide +kernel
theorem dX5_fewest_67 : decode cX5_fewest 67 = .ok (.iload 4, 2) := by decide +kernel
theorem dX5_fewest_69 : decode cX5_fewest 69 = .ok (.if_icmp .ge 25, 3) := by decide +kernel
theorem dX5_fewest_72 : decode cX5_fewest 72 = .ok (.aload_n 0, 1) := by decide +kernel
theorem dX5_fewest_73 : decode cX5_fewest 73 = .ok (.iload 6, 2) := by decide +kernel
theorem dX5_fewest_75 : decode cX5_fewest 75 = .ok (.iload_n 1, 1) := by decide +kernel
theorem dX5_fewest_76 : decode cX5_fewest 76 = .ok (.iload_n 2, 1) := by decide +kernel
theorem dX5_fewest_77 : decode cX5_fewest 77 = .ok (.invokevirtual 237, 3) := by decide +kernel
theorem dX5_fewest_80 : decode cX5_fewest 80 = .ok (.ifCond .eq 14, 3) := by decide +kernel
theorem dX5_fewest_83 : decode cX5_fewest 83 = .ok (.iload 6, 2) := by decide +kernel
theorem dX5_fewest_85 : decode cX5_fewest 85 = .ok (.invokestatic 191, 3) := by decide +kernel
theorem dX5_fewest_88 : decode cX5_fewest 88 = .ok (.istore 4, 2) := by decide +kernel
theorem dX5_fewest_90 : decode cX5_fewest 90 = .ok (.iload 6, 2) := by decide +kernel
theorem dX5_fewest_92 : decode cX5_fewest 92 = .ok (.istore 5, 2) := by decide +kernel
theorem dX5_fewest_94 : decode cX5_fewest 94 = .ok (.iinc 6 1, 3) := by decide +kernel
theorem dX5_fewest_97 : decode cX5_fewest 97 = .ok (.goto (-47), 3) := by decide +kernel
theorem dX5_fewest_100 : decode cX5_fewest 100 = .ok (.iload 4, 2) := by decide +kernel
theorem dX5_fewest_102 : decode cX5_fewest 102 = .ok (.bipush 6, 2) := by decide +kernel
theorem dX5_fewest_104 : decode cX5_fewest 104 = .ok (.if_icmp .le 6, 3) := by decide +kernel
theorem dX5_fewest_107 : decode cX5_fewest 107 = .ok (.ldc 232, 2) := by decide +kernel
theorem dX5_fewest_109 : decode cX5_fewest 109 = .ok (.ireturn, 1) := by decide +kernel
theorem dX5_fewest_110 : decode cX5_fewest 110 = .ok (.iload_n 3, 1) := by decide +kernel
theorem dX5_fewest_111 : decode cX5_fewest 111 = .ok (.ifCond .ne 8, 3) := by decide +kernel
theorem dX5_fewest_114 : decode cX5_fewest 114 = .ok (.iload 4, 2) := by decide +kernel
theorem dX5_fewest_116 : decode cX5_fewest 116 = .ok (.goto 5, 3) := by decide +kernel
theorem dX5_fewest_119 : decode cX5_fewest 119 = .ok (.iload 5, 2) := by decide +kernel
theorem dX5_fewest_121 : decode cX5_fewest 121 = .ok (.ireturn, 1) := by decide +kernel
theorem dX5_hard_0 : decode cX5_hard 0 = .ok (.aload_n 0, 1) := by decide +kernel
theorem dX5_hard_1 : decode cX5_hard 1 = .ok (.iload_n 1, 1) := by decide +kernel
theorem dX5_hard_2 : decode cX5_hard 2 = .ok (.invokevirtual 172, 3) := by decide +kernel
theorem dX5_hard_5 : decode cX5_hard 5 = .ok (.ifCond .eq 13, 3) := by decide +kernel
theorem dX5_hard_8 : decode cX5_hard 8 = .ok (.iload_n 2, 1) := by decide +kernel
theorem dX5_hard_9 : decode cX5_hard 9 = .ok (.iconst 1, 1) := by decide +kernel
theorem dX5_hard_10 : decode cX5_hard 10 = .ok (.bipush 24, 2) := by decide +kernel
theorem dX5_hard_12 : decode cX5_hard 12 = .ok (.invokestatic 73, 3) := by decide +kernel
theorem dX5_hard_15 : decode cX5_hard 15 = .ok (.ifCond .ne 6, 3) := by decide +kernel
theorem dX5_hard_18 : decode cX5_hard 18 = .ok (.ldc 77, 2) := by decide +kernel
theorem dX5_hard_20 : decode cX5_hard 20 = .ok (.ireturn, 1) := by decide +kernel
theorem dX5_hard_21 : decode cX5_hard 21 = .ok (.iconst 0, 1) := by decide +kernel
theorem dX5_hard_22 : decode cX5_hard 22 = .ok (.istore_n 3, 1) := by decide +kernel
theorem dX5_hard_23 : decode cX5_hard 23 = .ok (.iload_n 3, 1) := by decide +kernel
theorem dX5_hard_24 : decode cX5_hard 24 = .ok (.bipush 40, 2) := by decide +kernel
theorem dX5_hard_26 : decode cX5_hard 26 = .ok (.if_icmp .gt 63, 3) := by decide +kernel
theorem dX5_hard_29 : decode cX5_hard 29 = .ok (.aload_n 0, 1) := by decide +kernel
theorem dX5_hard_30 : decode cX5_hard 30 = .ok (.getfield 44, 3) := by decide +kernel
theorem dX5_hard_33 : decode cX5_hard 33 = .ok (.aload_n 0, 1) := by decide +kernel
theorem dX5_hard_34 : decode cX5_hard 34 = .ok (.getfield 33, 3) := by decide +kernel
theorem dX5_hard_37 : decode cX5_hard 37 = .ok (.invokevirtual 140, 3) := by decide +kernel
theorem dX5_hard_40 : decode cX5_hard 40 = .ok (.aload_n 0, 1) := by decide +kernel
theorem dX5_hard_41 : decode cX5_hard 41 = .ok (.getfield 44, 3) := by decide +kernel
theorem dX5_hard_44 : decode cX5_hard 44 = .ok (.getfield 181, 3) := by decide +kernel
theorem dX5_hard_47 : decode cX5_hard 47 = .ok (.iload_n 1, 1) := by decide +kernel
theorem dX5_hard_48 : decode cX5_hard 48 = .ok (.iload_n 3, 1) := by decide +kernel
theorem dX5_hard_49 : decode cX5_hard 49 = .ok (.iastore, 1) := by decide +kernel
theorem dX5_hard_50 : decode cX5_hard 50 = .ok (.aload_n 0, 1) := by decide +kernel
theorem dX5_hard_51 : decode cX5_hard 51 = .ok (.getfield 44, 3) := by decide +kernel
theorem dX5_hard_54 : decode cX5_hard 54 = .ok (.aload_n 0, 1) := by decide +kernel
theorem dX5_hard_55 : decode cX5_hard 55 = .ok (.getfield 26, 3) := by decide +kernel
theorem dX5_hard_58 : decode cX5_hard 58 = .ok (.iload_n 2, 1) := by decide +kernel
theorem dX5_hard_59 : decode cX5_hard 59 = .ok (.invokevirtual 225, 3) := by decide +kernel
theorem dX5_hard_62 : decode cX5_hard 62 = .ok (.aload_n 0, 1) := by decide +kernel
theorem dX5_hard_63 : decode cX5_hard 63 = .ok (.getfield 44, 3) := by decide +kernel
theorem dX5_hard_66 : decode cX5_hard 66 = .ok (.getfield 169, 3) := by decide +kernel
theorem dX5_hard_69 : decode cX5_hard 69 = .ok (.aload_n 0, 1) := by decide +kernel
theorem dX5_hard_70 : decode cX5_hard 70 = .ok (.getfield 44, 3) := by decide +kernel
theorem dX5_hard_73 : decode cX5_hard 73 = .ok (.getfield 178, 3) := by decide +kernel
theorem dX5_hard_76 : decode cX5_hard 76 = .ok (.iload_n 1, 1) := by decide +kernel
theorem dX5_hard_77 : decode cX5_hard 77 = .ok (.iaload, 1) := by decide +kernel
theorem dX5_hard_78 : decode cX5_hard 78 = .ok (.if_icmp .ne 5, 3) := by decide +kernel
theorem dX5_hard_81 : decode cX5_hard 81 = .ok (.iload_n 3, 1) := by decide +kernel
theorem dX5_hard_82 : decode cX5_hard 82 = .ok (.ireturn, 1) := by decide +kernel
theorem dX5_hard_83 : decode cX5_hard 83 = .ok (.iinc 3 1, 3) := by decide +kernel
theorem dX5_hard_86 : decode cX5_hard 86 = .ok (.goto (-63), 3) := by decide +kernel
theorem dX5_hard_89 : decode cX5_hard 89 = .ok (.ldc 232, 2) := by decide +kernel
theorem dX5_hard_91 : decode cX5_hard 91 = .ok (.ireturn, 1) := by decide +kernel
theorem dX5_stolen_0 : decode cX5_stolen 0 = .ok (.aload_n 0, 1) := by decide +kernel
theorem dX5_stolen_1 : decode cX5_stolen 1 = .ok (.invokevirtual 156, 3) := by decide +kernel
theorem dX5_stolen_4 : decode cX5_stolen 4 = .ok (.ifCond .ne 6, 3) := by decide +kernel
theorem dX5_stolen_7 : decode cX5_stolen 7 = .ok (.ldc 152, 2) := by decide +kernel
theorem dX5_stolen_9 : decode cX5_stolen 9 = .ok (.ireturn, 1) := by decide +kernel
theorem dX5_stolen_10 : decode cX5_stolen 10 = .ok (.aload_n 0, 1) := by decide +kernel
theorem dX5_stolen_11 : decode cX5_stolen 11 = .ok (.iload_n 1, 1) := by decide +kernel
theorem dX5_stolen_12 : decode cX5_stolen 12 = .ok (.invokevirtual 175, 3) := by decide +kernel
theorem dX5_stolen_15 : decode cX5_stolen 15 = .ok (.ifCond .eq 23, 3) := by decide +kernel
theorem dX5_stolen_18 : decode cX5_stolen 18 = .ok (.iload_n 2, 1) := by decide +kernel
theorem dX5_stolen_19 : decode cX5_stolen 19 = .ok (.iconst 0, 1) := by decide +kernel
theorem dX5_stolen_20 : decode cX5_stolen 20 = .ok (.bipush 60, 2) := by decide +kernel
theorem dX5_stolen_22 : decode cX5_stolen 22 = .ok (.invokestatic 73, 3) := by decide +kernel
theorem dX5_stolen_25 : decode cX5_stolen 25 = .ok (.ifCond .eq 13, 3) := by decide +kernel
theorem dX5_stolen_28 : decode cX5_stolen 28 = .ok (.iload_n 3, 1) := by decide +kernel
theorem dX5_stolen_29 : decode cX5_stolen 29 = .ok (.iconst 1, 1) := by decide +kernel
theorem dX5_stolen_30 : decode cX5_stolen 30 = .ok (.bipush 24, 2) := by decide +kernel
theorem dX5_stolen_32 : decode cX5_stolen 32 = .ok (.invokestatic 73, 3) := by decide +kernel
theorem dX5_stolen_35 : decode cX5_stolen 35 = .ok (.ifCond .ne 6, 3) := by decide +kernel
theorem dX5_stolen_38 : decode cX5_stolen 38 = .ok (.ldc 77, 2) := by decide +kernel
theorem dX5_stolen_40 : decode cX5_stolen 40 = .ok (.ireturn, 1) := by decide +kernel
theorem dX5_stolen_41 : decode cX5_stolen 41 = .ok (.aload_n 0, 1) := by decide +kernel
theorem dX5_stolen_42 : decode cX5_stolen 42 = .ok (.getfield 44, 3) := by decide +kernel
theorem dX5_stolen_45 : decode cX5_stolen 45 = .ok (.aload_n 0, 1) := by decide +kernel
theorem dX5_stolen_46 : decode cX5_stolen 46 = .ok (.getfield 33, 3) := by decide +kernel
theorem dX5_stolen_49 : decode cX5_stolen 49 = .ok (.invokevirtual 140, 3) := by decide +kernel
theorem dX5_stolen_52 : decode cX5_stolen 52 = .ok (.iconst 0, 1) := by decide +kernel
theorem dX5_stolen_53 : decode cX5_stolen 53 = .ok (.istore 4, 2) := by decide +kernel
theorem dX5_stolen_55 : decode cX5_stolen 55 = .ok (.iconst 0, 1) := by decide +kernel
theorem dX5_stolen_56 : decode cX5_stolen 56 = .ok (.istore 5, 2) := by decide +kernel
theorem dX5_stolen_58 : decode cX5_stolen 58 = .ok (.iload 5, 2) := by decide +kernel
theorem dX5_stolen_60 : decode cX5_stolen 60 = .ok (.iload_n 3, 1) := by decide +kernel
theorem dX5_stolen_61 : decode cX5_stolen 61 = .ok (.if_icmp .ge 68, 3) := by decide +kernel
theorem dX5_stolen_64 : decode cX5_stolen 64 = .ok (.aload_n 0, 1) := by decide +kernel
theorem dX5_stolen_65 : decode cX5_stolen 65 = .ok (.getfield 44, 3) := by decide +kernel
theorem dX5_stolen_68 : decode cX5_stolen 68 = .ok (.aload_n 0, 1) := by decide +kernel
theorem dX5_stolen_69 : decode cX5_stolen 69 = .ok (.getfield 26, 3) := by decide +kernel
theorem dX5_stolen_72 : decode cX5_stolen 72 = .ok (.invokevirtual 210, 3) := by decide +kernel
theorem dX5_stolen_75 : decode cX5_stolen 75 = .ok (.aload_n 0, 1) := by decide +kernel
theorem dX5_stolen_76 : decode cX5_stolen 76 = .ok (.getfield 44, 3) := by decide +kernel
theorem dX5_stolen_79 : decode cX5_stolen 79 = .ok (.getfield 213, 3) := by decide +kernel
theorem dX5_stolen_82 : decode cX5_stolen 82 = .ok (.iload_n 1, 1) := by decide +kernel
theorem dX5_stolen_83 : decode cX5_stolen 83 = .ok (.dup2, 1) := by decide +kernel
theorem dX5_stolen_84 : decode cX5_stolen 84 = .ok (.iaload, 1) := by decide +kernel
theorem dX5_stolen_85 : decode cX5_stolen 85 = .ok (.iload_n 2, 1) := by decide +kernel
theorem dX5_stolen_86 : decode cX5_stolen 86 = .ok (.iadd, 1) := by decide +kernel
theorem dX5_stolen_87 : decode cX5_stolen 87 = .ok (.iastore, 1) := by decide +kernel
theorem dX5_stolen_88 : decode cX5_stolen 88 = .ok (.aload_n 0, 1) := by decide +kernel
theorem dX5_stolen_89 : decode cX5_stolen 89 = .ok (.getfield 44, 3) := by decide +kernel
theorem dX5_stolen_92 : decode cX5_stolen 92 = .ok (.aload_n 0, 1) := by decide +kernel
theorem dX5_stolen_93 : decode cX5_stolen 93 = .ok (.getfield 26, 3) := by decide +kernel
theorem dX5_stolen_96 : decode cX5_stolen 96 = .ok (.invokevirtual 240, 3) := by decide +kernel
theorem dX5_stolen_99 : decode cX5_stolen 99 = .ok (.iload_n 1, 1) := by decide +kernel
theorem dX5_stolen_100 : decode cX5_stolen 100 = .ok (.if_icmp .ne 12, 3) := by decide +kernel
theorem dX5_stolen_103 : decode cX5_stolen 103 = .ok (.iload 4, 2) := by decide +kernel
theorem dX5_stolen_105 : decode cX5_stolen 105 = .ok (.iconst 1, 1) := by decide +kernel
theorem dX5_stolen_106 : decode cX5_stolen 106 = .ok (.iload 5, 2) := by decide +kernel
theorem dX5_stolen_108 : decode cX5_stolen 108 = .ok (.ishl, 1) := by decide +kernel
theorem dX5_stolen_109 : decode cX5_stolen 109 = .ok (.ior, 1) := by decide +kernel
theorem dX5_stolen_110 : decode cX5_stolen 110 = .ok (.istore 4, 2) := by decide +kernel
theorem dX5_stolen_112 : decode cX5_stolen 112 = .ok (.aload_n 0, 1) := by decide +kernel
theorem dX5_stolen_113 : decode cX5_stolen 113 = .ok (.getfield 44, 3) := by decide +kernel
theorem dX5_stolen_116 : decode cX5_stolen 116 = .ok (.aload_n 0, 1) := by decide +kernel
theorem dX5_stolen_117 : decode cX5_stolen 117 = .ok (.getfield 26, 3) := by decide +kernel
theorem dX5_stolen_120 : decode cX5_stolen 120 = .ok (.invokevirtual 166, 3) := by decide +kernel
theorem dX5_stolen_123 : decode cX5_stolen 123 = .ok (.iinc 5 1, 3) := by decide +kernel
theorem dX5_stolen_126 : decode cX5_stolen 126 = .ok (.goto (-68), 3) := by decide +kernel
theorem dX5_stolen_129 : decode cX5_stolen 129 = .ok (.iload 4, 2) := by decide +kernel
theorem dX5_stolen_131 : decode cX5_stolen 131 = .ok (.ireturn, 1) := by decide +kernel
theorem dX5_seen_0 : decode cX5_seen 0 = .ok (.aload_n 0, 1) := by decide +kernel
theorem dX5_seen_1 : decode cX5_seen 1 = .ok (.invokevirtual 156, 3) := by decide +kernel
theorem dX5_seen_4 : decode cX5_seen 4 = .ok (.ifCond .ne 6, 3) := by decide +kernel
theorem dX5_seen_7 : decode cX5_seen 7 = .ok (.ldc 152, 2) := by decide +kernel
theorem dX5_seen_9 : decode cX5_seen 9 = .ok (.ireturn, 1) := by decide +kernel
theorem dX5_seen_10 : decode cX5_seen 10 = .ok (.iload_n 1, 1) := by decide +kernel
theorem dX5_seen_11 : decode cX5_seen 11 = .ok (.invokestatic 69, 3) := by decide +kernel
theorem dX5_seen_14 : decode cX5_seen 14 = .ok (.ifCond .eq 23, 3) := by decide +kernel
theorem dX5_seen_17 : decode cX5_seen 17 = .ok (.iload_n 3, 1) := by decide +kernel
theorem dX5_seen_18 : decode cX5_seen 18 = .ok (.iconst 1, 1) := by decide +kernel
theorem dX5_seen_19 : decode cX5_seen 19 = .ok (.bipush 12, 2) := by decide +kernel
theorem dX5_seen_21 : decode cX5_seen 21 = .ok (.invokestatic 73, 3) := by decide +kernel
theorem dX5_seen_24 : decode cX5_seen 24 = .ok (.ifCond .eq 13, 3) := by decide +kernel
theorem dX5_seen_27 : decode cX5_seen 27 = .ok (.iload 4, 2) := by decide +kernel
theorem dX5_seen_29 : decode cX5_seen 29 = .ok (.iconst 0, 1) := by decide +kernel
theorem dX5_seen_30 : decode cX5_seen 30 = .ok (.iconst 1, 1) := by decide +kernel
theorem dX5_seen_31 : decode cX5_seen 31 = .ok (.invokestatic 73, 3) := by decide +kernel
theorem dX5_seen_34 : decode cX5_seen 34 = .ok (.ifCond .ne 6, 3) := by decide +kernel
theorem dX5_seen_37 : decode cX5_seen 37 = .ok (.ldc 77, 2) := by decide +kernel
theorem dX5_seen_39 : decode cX5_seen 39 = .ok (.ireturn, 1) := by decide +kernel
theorem dX5_seen_40 : decode cX5_seen 40 = .ok (.aload_n 0, 1) := by decide +kernel
theorem dX5_seen_41 : decode cX5_seen 41 = .ok (.getfield 10, 3) := by decide +kernel
theorem dX5_seen_44 : decode cX5_seen 44 = .ok (.iload_n 1, 1) := by decide +kernel
theorem dX5_seen_45 : decode cX5_seen 45 = .ok (.iload_n 2, 1) := by decide +kernel
theorem dX5_seen_46 : decode cX5_seen 46 = .ok (.iload_n 3, 1) := by decide +kernel
theorem dX5_seen_47 : decode cX5_seen 47 = .ok (.invokevirtual 89, 3) := by decide +kernel
theorem dX5_seen_50 : decode cX5_seen 50 = .ok (.istore 5, 2) := by decide +kernel
theorem dX5_seen_52 : decode cX5_seen 52 = .ok (.iload 5, 2) := by decide +kernel
theorem dX5_seen_54 : decode cX5_seen 54 = .ok (.ifCond .eq 10, 3) := by decide +kernel
theorem dX5_seen_57 : decode cX5_seen 57 = .ok (.aload_n 0, 1) := by decide +kernel
theorem dX5_seen_58 : decode cX5_seen 58 = .ok (.iload 5, 2) := by decide +kernel
theorem dX5_seen_60 : decode cX5_seen 60 = .ok (.invokevirtual 78, 3) := by decide +kernel
theorem dX5_seen_63 : decode cX5_seen 63 = .ok (.ireturn, 1) := by decide +kernel
theorem dX5_seen_64 : decode cX5_seen 64 = .ok (.iconst 0, 1) := by decide +kernel
theorem dX5_seen_65 : decode cX5_seen 65 = .ok (.istore 6, 2) := by decide +kernel
theorem dX5_seen_67 : decode cX5_seen 67 = .ok (.ldc 232, 2) := by decide +kernel
theorem dX5_seen_69 : decode cX5_seen 69 = .ok (.istore 7, 2) := by decide +kernel
theorem dX5_seen_71 : decode cX5_seen 71 = .ok (.aload_n 0, 1) := by decide +kernel
theorem dX5_seen_72 : decode cX5_seen 72 = .ok (.getfield 26, 3) := by decide +kernel
theorem dX5_seen_75 : decode cX5_seen 75 = .ok (.getfield 244, 3) := by decide +kernel
theorem dX5_seen_78 : decode cX5_seen 78 = .ok (.iconst 1, 1) := by decide +kernel
theorem dX5_seen_79 : decode cX5_seen 79 = .ok (.isub, 1) := by decide +kernel
theorem dX5_seen_80 : decode cX5_seen 80 = .ok (.istore 8, 2) := by decide +kernel
theorem dX5_seen_82 : decode cX5_seen 82 = .ok (.iload 8, 2) := by decide +kernel
theorem dX5_seen_84 : decode cX5_seen 84 = .ok (.ifCond .lt 46, 3) := by decide +kernel
theorem dX5_seen_87 : decode cX5_seen 87 = .ok (.aload_n 0, 1) := by decide +kernel
theorem dX5_seen_88 : decode cX5_seen 88 = .ok (.getfield 44, 3) := by decide +kernel
theorem dX5_seen_91 : decode cX5_seen 91 = .ok (.aload_n 0, 1) := by decide +kernel
theorem dX5_seen_92 : decode cX5_seen 92 = .ok (.getfield 33, 3) := by decide +kernel
theorem dX5_seen_95 : decode cX5_seen 95 = .ok (.invokevirtual 140, 3) := by decide +kernel
theorem dX5_seen_98 : decode cX5_seen 98 = .ok (.aload_n 0, 1) := by decide +kernel
theorem dX5_seen_99 : decode cX5_seen 99 = .ok (.getfield 44, 3) := by decide +kernel
theorem dX5_seen_102 : decode cX5_seen 102 = .ok (.iload 8, 2) := by decide +kernel
theorem dX5_seen_104 : decode cX5_seen 104 = .ok (.putfield 169, 3) := by decide +kernel
theorem dX5_seen_107 : decode cX5_seen 107 = .ok (.aload_n 0, 1) := by decide +kernel
theorem dX5_seen_108 : decode cX5_seen 108 = .ok (.iload_n 1, 1) := by decide +kernel
theorem dX5_seen_109 : decode cX5_seen 109 = .ok (.iload_n 2, 1) := by decide +kernel
theorem dX5_seen_110 : decode cX5_seen 110 = .ok (.iload_n 3, 1) := by decide +kernel
theorem dX5_seen_111 : decode cX5_seen 111 = .ok (.invokevirtual 247, 3) := by decide +kernel
theorem dX5_seen_114 : decode cX5_seen 114 = .ok (.ifCond .eq 10, 3) := by decide +kernel
theorem dX5_seen_117 : decode cX5_seen 117 = .ok (.iinc 6 1, 3) := by decide +kernel
theorem dX5_seen_120 : decode cX5_seen 120 = .ok (.iload 8, 2) := by decide +kernel
theorem dX5_seen_122 : decode cX5_seen 122 = .ok (.istore 7, 2) := by decide +kernel
theorem dX5_seen_124 : decode cX5_seen 124 = .ok (.iinc 8 (-1), 3) := by decide +kernel
theorem dX5_seen_127 : decode cX5_seen 127 = .ok (.goto (-45), 3) := by decide +kernel
theorem dX5_seen_130 : decode cX5_seen 130 = .ok (.aload_n 0, 1) := by decide +kernel
theorem dX5_seen_131 : decode cX5_seen 131 = .ok (.iload 4, 2) := by decide +kernel
theorem dX5_seen_133 : decode cX5_seen 133 = .ok (.ifCond .ne 8, 3) := by decide +kernel
theorem dX5_seen_136 : decode cX5_seen 136 = .ok (.iload 6, 2) := by decide +kernel
theorem dX5_seen_138 : decode cX5_seen 138 = .ok (.goto 5, 3) := by decide +kernel
theorem dX5_seen_141 : decode cX5_seen 141 = .ok (.iload 7, 2) := by decide +kernel
theorem dX5_seen_143 : decode cX5_seen 143 = .ok (.invokevirtual 86, 3) := by decide +kernel
theorem dX5_seen_146 : decode cX5_seen 146 = .ok (.ireturn, 1) := by decide +kernel
theorem dX5_who_0 : decode cX5_who 0 = .ok (.aload_n 0, 1) := by decide +kernel
theorem dX5_who_1 : decode cX5_who 1 = .ok (.iload_n 1, 1) := by decide +kernel
theorem dX5_who_2 : decode cX5_who 2 = .ok (.invokevirtual 172, 3) := by decide +kernel
theorem dX5_who_5 : decode cX5_who 5 = .ok (.ifCond .eq 21, 3) := by decide +kernel
theorem dX5_who_8 : decode cX5_who 8 = .ok (.iload_n 2, 1) := by decide +kernel
theorem dX5_who_9 : decode cX5_who 9 = .ok (.invokestatic 69, 3) := by decide +kernel
theorem dX5_who_12 : decode cX5_who 12 = .ok (.ifCond .eq 14, 3) := by decide +kernel
theorem dX5_who_15 : decode cX5_who 15 = .ok (.iload 4, 2) := by decide +kernel
theorem dX5_who_17 : decode cX5_who 17 = .ok (.iconst 1, 1) := by decide +kernel
theorem dX5_who_18 : decode cX5_who 18 = .ok (.bipush 12, 2) := by decide +kernel
theorem dX5_who_20 : decode cX5_who 20 = .ok (.invokestatic 73, 3) := by decide +kernel
theorem dX5_who_23 : decode cX5_who 23 = .ok (.ifCond .ne 6, 3) := by decide +kernel
theorem dX5_who_26 : decode cX5_who 26 = .ok (.ldc 77, 2) := by decide +kernel
theorem dX5_who_28 : decode cX5_who 28 = .ok (.ireturn, 1) := by decide +kernel
theorem dX5_who_29 : decode cX5_who 29 = .ok (.aload_n 0, 1) := by decide +kernel
theorem dX5_who_30 : decode cX5_who 30 = .ok (.getfield 10, 3) := by decide +kernel
theorem dX5_who_33 : decode cX5_who 33 = .ok (.iload_n 2, 1) := by decide +kernel
theorem dX5_who_34 : decode cX5_who 34 = .ok (.iload_n 3, 1) := by decide +kernel
theorem dX5_who_35 : decode cX5_who 35 = .ok (.iload 4, 2) := by decide +kernel
theorem dX5_who_37 : decode cX5_who 37 = .ok (.invokevirtual 89, 3) := by decide +kernel
theorem dX5_who_40 : decode cX5_who 40 = .ok (.istore 5, 2) := by decide +kernel
theorem dX5_who_42 : decode cX5_who 42 = .ok (.iload 5, 2) := by decide +kernel
theorem dX5_who_44 : decode cX5_who 44 = .ok (.ifCond .eq 10, 3) := by decide +kernel
theorem dX5_who_47 : decode cX5_who 47 = .ok (.aload_n 0, 1) := by decide +kernel
theorem dX5_who_48 : decode cX5_who 48 = .ok (.iload 5, 2) := by decide +kernel
theorem dX5_who_50 : decode cX5_who 50 = .ok (.invokevirtual 78, 3) := by decide +kernel
theorem dX5_who_53 : decode cX5_who 53 = .ok (.ireturn, 1) := by decide +kernel
theorem dX5_who_54 : decode cX5_who 54 = .ok (.iconst 0, 1) := by decide +kernel
theorem dX5_who_55 : decode cX5_who 55 = .ok (.istore 6, 2) := by decide +kernel
theorem dX5_who_57 : decode cX5_who 57 = .ok (.iconst 1, 1) := by decide +kernel
theorem dX5_who_58 : decode cX5_who 58 = .ok (.istore 7, 2) := by decide +kernel
theorem dX5_who_60 : decode cX5_who 60 = .ok (.iload 7, 2) := by decide +kernel
theorem dX5_who_62 : decode cX5_who 62 = .ok (.iconst 5, 1) := by decide +kernel
theorem dX5_who_63 : decode cX5_who 63 = .ok (.if_icmp .gt 50, 3) := by decide +kernel
theorem dX5_who_66 : decode cX5_who 66 = .ok (.aload_n 0, 1) := by decide +kernel
theorem dX5_who_67 : decode cX5_who 67 = .ok (.getfield 44, 3) := by decide +kernel
theorem dX5_who_70 : decode cX5_who 70 = .ok (.aload_n 0, 1) := by decide +kernel
theorem dX5_who_71 : decode cX5_who 71 = .ok (.getfield 33, 3) := by decide +kernel
theorem dX5_who_74 : decode cX5_who 74 = .ok (.invokevirtual 140, 3) := by decide +kernel
theorem dX5_who_77 : decode cX5_who 77 = .ok (.aload_n 0, 1) := by decide +kernel
theorem dX5_who_78 : decode cX5_who 78 = .ok (.getfield 44, 3) := by decide +kernel
theorem dX5_who_81 : decode cX5_who 81 = .ok (.iload_n 1, 1) := by decide +kernel
theorem dX5_who_82 : decode cX5_who 82 = .ok (.iload 7, 2) := by decide +kernel
theorem dX5_who_84 : decode cX5_who 84 = .ok (.invokevirtual 250, 3) := by decide +kernel
theorem dX5_who_87 : decode cX5_who 87 = .ok (.aload_n 0, 1) := by decide +kernel
theorem dX5_who_88 : decode cX5_who 88 = .ok (.iload_n 2, 1) := by decide +kernel
theorem dX5_who_89 : decode cX5_who 89 = .ok (.iload_n 3, 1) := by decide +kernel
theorem dX5_who_90 : decode cX5_who 90 = .ok (.iload 4, 2) := by decide +kernel
theorem dX5_who_92 : decode cX5_who 92 = .ok (.invokevirtual 247, 3) := by decide +kernel
theorem dX5_who_95 : decode cX5_who 95 = .ok (.ifCond .eq 12, 3) := by decide +kernel
theorem dX5_who_98 : decode cX5_who 98 = .ok (.iload 6, 2) := by decide +kernel
theorem dX5_who_100 : decode cX5_who 100 = .ok (.iconst 1, 1) := by decide +kernel
theorem dX5_who_101 : decode cX5_who 101 = .ok (.iload 7, 2) := by decide +kernel
theorem dX5_who_103 : decode cX5_who 103 = .ok (.ishl, 1) := by decide +kernel
theorem dX5_who_104 : decode cX5_who 104 = .ok (.ior, 1) := by decide +kernel
theorem dX5_who_105 : decode cX5_who 105 = .ok (.istore 6, 2) := by decide +kernel
theorem dX5_who_107 : decode cX5_who 107 = .ok (.iinc 7 1, 3) := by decide +kernel
theorem dX5_who_110 : decode cX5_who 110 = .ok (.goto (-50), 3) := by decide +kernel
theorem dX5_who_113 : decode cX5_who 113 = .ok (.aload_n 0, 1) := by decide +kernel
theorem dX5_who_114 : decode cX5_who 114 = .ok (.iload 6, 2) := by decide +kernel
theorem dX5_who_116 : decode cX5_who 116 = .ok (.invokevirtual 86, 3) := by decide +kernel
theorem dX5_who_119 : decode cX5_who 119 = .ok (.ireturn, 1) := by decide +kernel
theorem dX5_round_0 : decode cX5_round 0 = .ok (.aload_n 0, 1) := by decide +kernel
theorem dX5_round_1 : decode cX5_round 1 = .ok (.invokevirtual 156, 3) := by decide +kernel
theorem dX5_round_4 : decode cX5_round 4 = .ok (.ifCond .ne 6, 3) := by decide +kernel
theorem dX5_round_7 : decode cX5_round 7 = .ok (.ldc 152, 2) := by decide +kernel
theorem dX5_round_9 : decode cX5_round 9 = .ok (.ireturn, 1) := by decide +kernel
theorem dX5_round_10 : decode cX5_round 10 = .ok (.iload_n 1, 1) := by decide +kernel
theorem dX5_round_11 : decode cX5_round 11 = .ok (.iconst 0, 1) := by decide +kernel
theorem dX5_round_12 : decode cX5_round 12 = .ok (.iconst 1, 1) := by decide +kernel
theorem dX5_round_13 : decode cX5_round 13 = .ok (.invokestatic 73, 3) := by decide +kernel
theorem dX5_round_16 : decode cX5_round 16 = .ok (.ifCond .ne 6, 3) := by decide +kernel
theorem dX5_round_19 : decode cX5_round 19 = .ok (.ldc 77, 2) := by decide +kernel
theorem dX5_round_21 : decode cX5_round 21 = .ok (.ireturn, 1) := by decide +kernel
theorem dX5_round_22 : decode cX5_round 22 = .ok (.aload_n 0, 1) := by decide +kernel
theorem dX5_round_23 : decode cX5_round 23 = .ok (.getfield 44, 3) := by decide +kernel
theorem dX5_round_26 : decode cX5_round 26 = .ok (.aload_n 0, 1) := by decide +kernel
theorem dX5_round_27 : decode cX5_round 27 = .ok (.getfield 33, 3) := by decide +kernel
theorem dX5_round_30 : decode cX5_round 30 = .ok (.invokevirtual 140, 3) := by decide +kernel
theorem dX5_round_33 : decode cX5_round 33 = .ok (.aload_n 0, 1) := by decide +kernel
theorem dX5_round_34 : decode cX5_round 34 = .ok (.getfield 61, 3) := by decide +kernel
theorem dX5_round_37 : decode cX5_round 37 = .ok (.iconst 0, 1) := by decide +kernel
theorem dX5_round_38 : decode cX5_round 38 = .ok (.aload_n 0, 1) := by decide +kernel
theorem dX5_round_39 : decode cX5_round 39 = .ok (.getfield 44, 3) := by decide +kernel
theorem dX5_round_42 : decode cX5_round 42 = .ok (.invokevirtual 254, 3) := by decide +kernel
theorem dX5_round_45 : decode cX5_round 45 = .ok (.lastore, 1) := by decide +kernel
theorem dX5_round_46 : decode cX5_round 46 = .ok (.iconst 1, 1) := by decide +kernel
theorem dX5_round_47 : decode cX5_round 47 = .ok (.istore_n 2, 1) := by decide +kernel
theorem dX5_round_48 : decode cX5_round 48 = .ok (.iload_n 2, 1) := by decide +kernel
theorem dX5_round_49 : decode cX5_round 49 = .ok (.bipush 100, 2) := by decide +kernel
theorem dX5_round_51 : decode cX5_round 51 = .ok (.if_icmp .gt 72, 3) := by decide +kernel
theorem dX5_round_54 : decode cX5_round 54 = .ok (.aload_n 0, 1) := by decide +kernel
theorem dX5_round_55 : decode cX5_round 55 = .ok (.getfield 44, 3) := by decide +kernel
theorem dX5_round_58 : decode cX5_round 58 = .ok (.aload_n 0, 1) := by decide +kernel
theorem dX5_round_59 : decode cX5_round 59 = .ok (.getfield 26, 3) := by decide +kernel
theorem dX5_round_62 : decode cX5_round 62 = .ok (.invokevirtual 166, 3) := by decide +kernel
theorem dX5_round_65 : decode cX5_round 65 = .ok (.aload_n 0, 1) := by decide +kernel
theorem dX5_round_66 : decode cX5_round 66 = .ok (.getfield 61, 3) := by decide +kernel
theorem dX5_round_69 : decode cX5_round 69 = .ok (.iload_n 2, 1) := by decide +kernel
theorem dX5_round_70 : decode cX5_round 70 = .ok (.aload_n 0, 1) := by decide +kernel
theorem dX5_round_71 : decode cX5_round 71 = .ok (.getfield 44, 3) := by decide +kernel
theorem dX5_round_74 : decode cX5_round 74 = .ok (.invokevirtual 254, 3) := by decide +kernel
theorem dX5_round_77 : decode cX5_round 77 = .ok (.lastore, 1) := by decide +kernel
theorem dX5_round_78 : decode cX5_round 78 = .ok (.iconst 0, 1) := by decide +kernel
theorem dX5_round_79 : decode cX5_round 79 = .ok (.istore_n 3, 1) := by decide +kernel
theorem dX5_round_80 : decode cX5_round 80 = .ok (.iload_n 3, 1) := by decide +kernel
theorem dX5_round_81 : decode cX5_round 81 = .ok (.iload_n 2, 1) := by decide +kernel
theorem dX5_round_82 : decode cX5_round 82 = .ok (.if_icmp .ge 35, 3) := by decide +kernel
theorem dX5_round_85 : decode cX5_round 85 = .ok (.aload_n 0, 1) := by decide +kernel
theorem dX5_round_86 : decode cX5_round 86 = .ok (.getfield 61, 3) := by decide +kernel
theorem dX5_round_89 : decode cX5_round 89 = .ok (.iload_n 3, 1) := by decide +kernel
theorem dX5_round_90 : decode cX5_round 90 = .ok (.laload, 1) := by decide +kernel
theorem dX5_round_91 : decode cX5_round 91 = .ok (.aload_n 0, 1) := by decide +kernel
theorem dX5_round_92 : decode cX5_round 92 = .ok (.getfield 61, 3) := by decide +kernel
theorem dX5_round_95 : decode cX5_round 95 = .ok (.iload_n 2, 1) := by decide +kernel
theorem dX5_round_96 : decode cX5_round 96 = .ok (.laload, 1) := by decide +kernel
theorem dX5_round_97 : decode cX5_round 97 = .ok (.lcmp, 1) := by decide +kernel
theorem dX5_round_98 : decode cX5_round 98 = .ok (.ifCond .ne 13, 3) := by decide +kernel
theorem dX5_round_101 : decode cX5_round 101 = .ok (.iload_n 1, 1) := by decide +kernel
theorem dX5_round_102 : decode cX5_round 102 = .ok (.ifCond .ne 7, 3) := by decide +kernel
theorem dX5_round_105 : decode cX5_round 105 = .ok (.iload_n 2, 1) := by decide +kernel
theorem dX5_round_106 : decode cX5_round 106 = .ok (.goto 4, 3) := by decide +kernel
theorem dX5_round_109 : decode cX5_round 109 = .ok (.iload_n 3, 1) := by decide +kernel
theorem dX5_round_110 : decode cX5_round 110 = .ok (.ireturn, 1) := by decide +kernel
theorem dX5_round_111 : decode cX5_round 111 = .ok (.iinc 3 1, 3) := by decide +kernel
theorem dX5_round_114 : decode cX5_round 114 = .ok (.goto (-34), 3) := by decide +kernel
theorem dX5_round_117 : decode cX5_round 117 = .ok (.iinc 2 1, 3) := by decide +kernel
theorem dX5_round_120 : decode cX5_round 120 = .ok (.goto (-72), 3) := by decide +kernel
theorem dX5_round_123 : decode cX5_round 123 = .ok (.ldc 232, 2) := by decide +kernel
theorem dX5_round_125 : decode cX5_round 125 = .ok (.ireturn, 1) := by decide +kernel
theorem dX5_half_0 : decode cX5_half 0 = .ok (.aload_n 0, 1) := by decide +kernel
theorem dX5_half_1 : decode cX5_half 1 = .ok (.invokevirtual 156, 3) := by decide +kernel
theorem dX5_half_4 : decode cX5_half 4 = .ok (.ifCond .ne 6, 3) := by decide +kernel
theorem dX5_half_7 : decode cX5_half 7 = .ok (.ldc 152, 2) := by decide +kernel
theorem dX5_half_9 : decode cX5_half 9 = .ok (.ireturn, 1) := by decide +kernel
theorem dX5_half_10 : decode cX5_half 10 = .ok (.iload_n 1, 1) := by decide +kernel
theorem dX5_half_11 : decode cX5_half 11 = .ok (.iconst 1, 1) := by decide +kernel
theorem dX5_half_12 : decode cX5_half 12 = .ok (.bipush 60, 2) := by decide +kernel
theorem dX5_half_14 : decode cX5_half 14 = .ok (.invokestatic 73, 3) := by decide +kernel
theorem dX5_half_17 : decode cX5_half 17 = .ok (.ifCond .ne 6, 3) := by decide +kernel
theorem dX5_half_20 : decode cX5_half 20 = .ok (.ldc 77, 2) := by decide +kernel
theorem dX5_half_22 : decode cX5_half 22 = .ok (.ireturn, 1) := by decide +kernel
theorem dX5_half_23 : decode cX5_half 23 = .ok (.aload_n 0, 1) := by decide +kernel
theorem dX5_half_24 : decode cX5_half 24 = .ok (.getfield 44, 3) := by decide +kernel
theorem dX5_half_27 : decode cX5_half 27 = .ok (.aload_n 0, 1) := by decide +kernel
theorem dX5_half_28 : decode cX5_half 28 = .ok (.getfield 33, 3) := by decide +kernel
theorem dX5_half_31 : decode cX5_half 31 = .ok (.invokevirtual 140, 3) := by decide +kernel
theorem dX5_half_34 : decode cX5_half 34 = .ok (.iconst 0, 1) := by decide +kernel
theorem dX5_half_35 : decode cX5_half 35 = .ok (.istore_n 2, 1) := by decide +kernel
theorem dX5_half_36 : decode cX5_half 36 = .ok (.iload_n 2, 1) := by decide +kernel
theorem dX5_half_37 : decode cX5_half 37 = .ok (.iload_n 1, 1) := by decide +kernel
theorem dX5_half_38 : decode cX5_half 38 = .ok (.if_icmp .ge 39, 3) := by decide +kernel
theorem dX5_half_41 : decode cX5_half 41 = .ok (.aload_n 0, 1) := by decide +kernel
theorem dX5_half_42 : decode cX5_half 42 = .ok (.getfield 44, 3) := by decide +kernel
theorem dX5_half_45 : decode cX5_half 45 = .ok (.aload_n 0, 1) := by decide +kernel
theorem dX5_half_46 : decode cX5_half 46 = .ok (.getfield 26, 3) := by decide +kernel
theorem dX5_half_49 : decode cX5_half 49 = .ok (.invokevirtual 166, 3) := by decide +kernel
theorem dX5_half_52 : decode cX5_half 52 = .ok (.aload_n 0, 1) := by decide +kernel
theorem dX5_half_53 : decode cX5_half 53 = .ok (.getfield 44, 3) := by decide +kernel
theorem dX5_half_56 : decode cX5_half 56 = .ok (.getfield 258, 3) := by decide +kernel
theorem dX5_half_59 : decode cX5_half 59 = .ok (.aload_n 0, 1) := by decide +kernel
theorem dX5_half_60 : decode cX5_half 60 = .ok (.getfield 33, 3) := by decide +kernel
theorem dX5_half_63 : decode cX5_half 63 = .ok (.getfield 258, 3) := by decide +kernel
theorem dX5_half_66 : decode cX5_half 66 = .ok (.if_icmp .le 5, 3) := by decide +kernel
theorem dX5_half_69 : decode cX5_half 69 = .ok (.iload_n 2, 1) := by decide +kernel
theorem dX5_half_70 : decode cX5_half 70 = .ok (.ireturn, 1) := by decide +kernel
theorem dX5_half_71 : decode cX5_half 71 = .ok (.iinc 2 1, 3) := by decide +kernel
theorem dX5_half_74 : decode cX5_half 74 = .ok (.goto (-38), 3) := by decide +kernel
theorem dX5_half_77 : decode cX5_half 77 = .ok (.ldc 232, 2) := by decide +kernel
theorem dX5_half_79 : decode cX5_half 79 = .ok (.ireturn, 1) := by decide +kernel
theorem dX5_awake_0 : decode cX5_awake 0 = .ok (.aload_n 0, 1) := by decide +kernel
theorem dX5_awake_1 : decode cX5_awake 1 = .ok (.invokevirtual 156, 3) := by decide +kernel
theorem dX5_awake_4 : decode cX5_awake 4 = .ok (.ifCond .ne 7, 3) := by decide +kernel
theorem dX5_awake_7 : decode cX5_awake 7 = .ok (.ldc2_w 261, 3) := by decide +kernel
theorem dX5_awake_10 : decode cX5_awake 10 = .ok (.lreturn, 1) := by decide +kernel
theorem dX5_awake_11 : decode cX5_awake 11 = .ok (.iload_n 1, 1) := by decide +kernel
theorem dX5_awake_12 : decode cX5_awake 12 = .ok (.iconst 0, 1) := by decide +kernel
theorem dX5_awake_13 : decode cX5_awake 13 = .ok (.bipush 10, 2) := by decide +kernel
theorem dX5_awake_15 : decode cX5_awake 15 = .ok (.invokestatic 73, 3) := by decide +kernel
theorem dX5_awake_18 : decode cX5_awake 18 = .ok (.ifCond .eq 12, 3) := by decide +kernel
theorem dX5_awake_21 : decode cX5_awake 21 = .ok (.iload_n 2, 1) := by decide +kernel
theorem dX5_awake_22 : decode cX5_awake 22 = .ok (.iconst 0, 1) := by decide +kernel
theorem dX5_awake_23 : decode cX5_awake 23 = .ok (.iconst 1, 1) := by decide +kernel
theorem dX5_awake_24 : decode cX5_awake 24 = .ok (.invokestatic 73, 3) := by decide +kernel
theorem dX5_awake_27 : decode cX5_awake 27 = .ok (.ifCond .ne 7, 3) := by decide +kernel
theorem dX5_awake_30 : decode cX5_awake 30 = .ok (.ldc2_w 263, 3) := by decide +kernel
theorem dX5_awake_33 : decode cX5_awake 33 = .ok (.lreturn, 1) := by decide +kernel
theorem dX5_awake_34 : decode cX5_awake 34 = .ok (.aload_n 0, 1) := by decide +kernel
theorem dX5_awake_35 : decode cX5_awake 35 = .ok (.getfield 33, 3) := by decide +kernel
theorem dX5_awake_38 : decode cX5_awake 38 = .ok (.aload_n 0, 1) := by decide +kernel
theorem dX5_awake_39 : decode cX5_awake 39 = .ok (.getfield 26, 3) := by decide +kernel
theorem dX5_awake_42 : decode cX5_awake 42 = .ok (.invokevirtual 265, 3) := by decide +kernel
theorem dX5_awake_45 : decode cX5_awake 45 = .ok (.istore_n 3, 1) := by decide +kernel
theorem dX5_awake_46 : decode cX5_awake 46 = .ok (.iload_n 3, 1) := by decide +kernel
theorem dX5_awake_47 : decode cX5_awake 47 = .ok (.invokestatic 191, 3) := by decide +kernel
theorem dX5_awake_50 : decode cX5_awake 50 = .ok (.istore 4, 2) := by decide +kernel
theorem dX5_awake_52 : decode cX5_awake 52 = .ok (.lconst 0, 1) := by decide +kernel
theorem dX5_awake_53 : decode cX5_awake 53 = .ok (.lstore 5, 2) := by decide +kernel
theorem dX5_awake_55 : decode cX5_awake 55 = .ok (.aload_n 0, 1) := by decide +kernel
theorem dX5_awake_56 : decode cX5_awake 56 = .ok (.getfield 44, 3) := by decide +kernel
theorem dX5_awake_59 : decode cX5_awake 59 = .ok (.aload_n 0, 1) := by decide +kernel
theorem dX5_awake_60 : decode cX5_awake 60 = .ok (.getfield 33, 3) := by decide +kernel
theorem dX5_awake_63 : decode cX5_awake 63 = .ok (.invokevirtual 140, 3) := by decide +kernel
theorem dX5_awake_66 : decode cX5_awake 66 = .ok (.iconst 0, 1) := by decide +kernel
theorem dX5_awake_67 : decode cX5_awake 67 = .ok (.istore 7, 2) := by decide +kernel
theorem dX5_awake_69 : decode cX5_awake 69 = .ok (.iload 7, 2) := by decide +kernel
theorem dX5_awake_71 : decode cX5_awake 71 = .ok (.iload_n 3, 1) := by decide +kernel
theorem dX5_awake_72 : decode cX5_awake 72 = .ok (.if_icmp .gt 58, 3) := by decide +kernel
theorem dX5_awake_75 : decode cX5_awake 75 = .ok (.iload 7, 2) := by decide +kernel
theorem dX5_awake_77 : decode cX5_awake 77 = .ok (.iload_n 3, 1) := by decide +kernel
theorem dX5_awake_78 : decode cX5_awake 78 = .ok (.iconst (-1), 1) := by decide +kernel
theorem dX5_awake_79 : decode cX5_awake 79 = .ok (.ixor, 1) := by decide +kernel
theorem dX5_awake_80 : decode cX5_awake 80 = .ok (.iand, 1) := by decide +kernel
theorem dX5_awake_81 : decode cX5_awake 81 = .ok (.ifCond .ne 43, 3) := by decide +kernel
theorem dX5_awake_84 : decode cX5_awake 84 = .ok (.aload_n 0, 1) := by decide +kernel
theorem dX5_awake_85 : decode cX5_awake 85 = .ok (.iload 7, 2) := by decide +kernel
theorem dX5_awake_87 : decode cX5_awake 87 = .ok (.invokevirtual 268, 3) := by decide +kernel
theorem dX5_awake_90 : decode cX5_awake 90 = .ok (.ifCond .eq 34, 3) := by decide +kernel
theorem dX5_awake_93 : decode cX5_awake 93 = .ok (.iload 7, 2) := by decide +kernel
theorem dX5_awake_95 : decode cX5_awake 95 = .ok (.invokestatic 191, 3) := by decide +kernel
theorem dX5_awake_98 : decode cX5_awake 98 = .ok (.istore 8, 2) := by decide +kernel
theorem dX5_awake_100 : decode cX5_awake 100 = .ok (.lload 5, 2) := by decide +kernel
theorem dX5_awake_102 : decode cX5_awake 102 = .ok (.iload_n 1, 1) := by decide +kernel
theorem dX5_awake_103 : decode cX5_awake 103 = .ok (.iload 8, 2) := by decide +kernel
theorem dX5_awake_105 : decode cX5_awake 105 = .ok (.invokestatic 271, 3) := by decide +kernel
theorem dX5_awake_108 : decode cX5_awake 108 = .ok (.bipush 10, 2) := by decide +kernel
theorem dX5_awake_110 : decode cX5_awake 110 = .ok (.iload_n 1, 1) := by decide +kernel
theorem dX5_awake_111 : decode cX5_awake 111 = .ok (.isub, 1) := by decide +kernel
theorem dX5_awake_112 : decode cX5_awake 112 = .ok (.iload 4, 2) := by decide +kernel
theorem dX5_awake_114 : decode cX5_awake 114 = .ok (.iload 8, 2) := by decide +kernel
theorem dX5_awake_116 : decode cX5_awake 116 = .ok (.isub, 1) := by decide +kernel
theorem dX5_awake_117 : decode cX5_awake 117 = .ok (.invokestatic 271, 3) := by decide +kernel
theorem dX5_awake_120 : decode cX5_awake 120 = .ok (.lmul, 1) := by decide +kernel
theorem dX5_awake_121 : decode cX5_awake 121 = .ok (.ladd, 1) := by decide +kernel
theorem dX5_awake_122 : decode cX5_awake 122 = .ok (.lstore 5, 2) := by decide +kernel
theorem dX5_awake_124 : decode cX5_awake 124 = .ok (.iinc 7 1, 3) := by decide +kernel
theorem dX5_awake_127 : decode cX5_awake 127 = .ok (.goto (-58), 3) := by decide +kernel
theorem dX5_awake_130 : decode cX5_awake 130 = .ok (.bipush 10, 2) := by decide +kernel
theorem dX5_awake_132 : decode cX5_awake 132 = .ok (.iload 4, 2) := by decide +kernel
theorem dX5_awake_134 : decode cX5_awake 134 = .ok (.invokestatic 271, 3) := by decide +kernel
theorem dX5_awake_137 : decode cX5_awake 137 = .ok (.lstore 7, 2) := by decide +kernel
theorem dX5_awake_139 : decode cX5_awake 139 = .ok (.lload 7, 2) := by decide +kernel
theorem dX5_awake_141 : decode cX5_awake 141 = .ok (.lload 5, 2) := by decide +kernel
theorem dX5_awake_143 : decode cX5_awake 143 = .ok (.invokestatic 275, 3) := by decide +kernel
theorem dX5_awake_146 : decode cX5_awake 146 = .ok (.lstore 9, 2) := by decide +kernel
theorem dX5_awake_148 : decode cX5_awake 148 = .ok (.iload_n 2, 1) := by decide +kernel
theorem dX5_awake_149 : decode cX5_awake 149 = .ok (.ifCond .ne 8, 3) := by decide +kernel
theorem dX5_awake_152 : decode cX5_awake 152 = .ok (.lload 5, 2) := by decide +kernel
theorem dX5_awake_154 : decode cX5_awake 154 = .ok (.goto 5, 3) := by decide +kernel
theorem dX5_awake_157 : decode cX5_awake 157 = .ok (.lload 7, 2) := by decide +kernel
theorem dX5_awake_159 : decode cX5_awake 159 = .ok (.lstore 11, 2) := by decide +kernel
theorem dX5_awake_161 : decode cX5_awake 161 = .ok (.lload 9, 2) := by decide +kernel
theorem dX5_awake_163 : decode cX5_awake 163 = .ok (.lconst 0, 1) := by decide +kernel
theorem dX5_awake_164 : decode cX5_awake 164 = .ok (.lcmp, 1) := by decide +kernel
theorem dX5_awake_165 : decode cX5_awake 165 = .ok (.ifCond .ne 8, 3) := by decide +kernel
theorem dX5_awake_168 : decode cX5_awake 168 = .ok (.lload 11, 2) := by decide +kernel
theorem dX5_awake_170 : decode cX5_awake 170 = .ok (.goto 8, 3) := by decide +kernel
theorem dX5_awake_173 : decode cX5_awake 173 = .ok (.lload 11, 2) := by decide +kernel
theorem dX5_awake_175 : decode cX5_awake 175 = .ok (.lload 9, 2) := by decide +kernel
theorem dX5_awake_177 : decode cX5_awake 177 = .ok (.ldiv, 1) := by decide +kernel
theorem dX5_awake_178 : decode cX5_awake 178 = .ok (.lreturn, 1) := by decide +kernel
theorem dX5_drawn_0 : decode cX5_drawn 0 = .ok (.aload_n 0, 1) := by decide +kernel
theorem dX5_drawn_1 : decode cX5_drawn 1 = .ok (.invokevirtual 156, 3) := by decide +kernel
theorem dX5_drawn_4 : decode cX5_drawn 4 = .ok (.ifCond .ne 6, 3) := by decide +kernel
theorem dX5_drawn_7 : decode cX5_drawn 7 = .ok (.ldc 152, 2) := by decide +kernel
theorem dX5_drawn_9 : decode cX5_drawn 9 = .ok (.ireturn, 1) := by decide +kernel
theorem dX5_drawn_10 : decode cX5_drawn 10 = .ok (.iload_n 1, 1) := by decide +kernel
theorem dX5_drawn_11 : decode cX5_drawn 11 = .ok (.iconst 0, 1) := by decide +kernel
theorem dX5_drawn_12 : decode cX5_drawn 12 = .ok (.bipush 60, 2) := by decide +kernel
theorem dX5_drawn_14 : decode cX5_drawn 14 = .ok (.invokestatic 73, 3) := by decide +kernel
theorem dX5_drawn_17 : decode cX5_drawn 17 = .ok (.ifCond .eq 23, 3) := by decide +kernel
theorem dX5_drawn_20 : decode cX5_drawn 20 = .ok (.iload_n 2, 1) := by decide +kernel
theorem dX5_drawn_21 : decode cX5_drawn 21 = .ok (.iconst 1, 1) := by decide +kernel
theorem dX5_drawn_22 : decode cX5_drawn 22 = .ok (.ldc_w 279, 3) := by decide +kernel
theorem dX5_drawn_25 : decode cX5_drawn 25 = .ok (.invokestatic 73, 3) := by decide +kernel
theorem dX5_drawn_28 : decode cX5_drawn 28 = .ok (.ifCond .eq 12, 3) := by decide +kernel
theorem dX5_drawn_31 : decode cX5_drawn 31 = .ok (.iload_n 3, 1) := by decide +kernel
theorem dX5_drawn_32 : decode cX5_drawn 32 = .ok (.iconst 0, 1) := by decide +kernel
theorem dX5_drawn_33 : decode cX5_drawn 33 = .ok (.iconst 1, 1) := by decide +kernel
theorem dX5_drawn_34 : decode cX5_drawn 34 = .ok (.invokestatic 73, 3) := by decide +kernel
theorem dX5_drawn_37 : decode cX5_drawn 37 = .ok (.ifCond .ne 6, 3) := by decide +kernel
theorem dX5_drawn_40 : decode cX5_drawn 40 = .ok (.ldc 77, 2) := by decide +kernel
theorem dX5_drawn_42 : decode cX5_drawn 42 = .ok (.ireturn, 1) := by decide +kernel
theorem dX5_drawn_43 : decode cX5_drawn 43 = .ok (.aload_n 0, 1) := by decide +kernel
theorem dX5_drawn_44 : decode cX5_drawn 44 = .ok (.getfield 44, 3) := by decide +kernel
theorem dX5_drawn_47 : decode cX5_drawn 47 = .ok (.aload_n 0, 1) := by decide +kernel
theorem dX5_drawn_48 : decode cX5_drawn 48 = .ok (.getfield 33, 3) := by decide +kernel
theorem dX5_drawn_51 : decode cX5_drawn 51 = .ok (.invokevirtual 140, 3) := by decide +kernel
theorem dX5_drawn_54 : decode cX5_drawn 54 = .ok (.iload_n 2, 1) := by decide +kernel
theorem dX5_drawn_55 : decode cX5_drawn 55 = .ok (.i2l, 1) := by decide +kernel
theorem dX5_drawn_56 : decode cX5_drawn 56 = .ok (.lstore 4, 2) := by decide +kernel
theorem dX5_drawn_58 : decode cX5_drawn 58 = .ok (.iconst 0, 1) := by decide +kernel
theorem dX5_drawn_59 : decode cX5_drawn 59 = .ok (.istore 6, 2) := by decide +kernel
theorem dX5_drawn_61 : decode cX5_drawn 61 = .ok (.iload 6, 2) := by decide +kernel
theorem dX5_drawn_63 : decode cX5_drawn 63 = .ok (.iload_n 1, 1) := by decide +kernel
theorem dX5_drawn_64 : decode cX5_drawn 64 = .ok (.if_icmp .ge 84, 3) := by decide +kernel
theorem dX5_drawn_67 : decode cX5_drawn 67 = .ok (.lload 4, 2) := by decide +kernel
theorem dX5_drawn_69 : decode cX5_drawn 69 = .ok (.ldc2_w 280, 3) := by decide +kernel
theorem dX5_drawn_72 : decode cX5_drawn 72 = .ok (.lmul, 1) := by decide +kernel
theorem dX5_drawn_73 : decode cX5_drawn 73 = .ok (.ldc2_w 282, 3) := by decide +kernel
theorem dX5_drawn_76 : decode cX5_drawn 76 = .ok (.lrem, 1) := by decide +kernel
theorem dX5_drawn_77 : decode cX5_drawn 77 = .ok (.lstore 4, 2) := by decide +kernel
theorem dX5_drawn_79 : decode cX5_drawn 79 = .ok (.aload_n 0, 1) := by decide +kernel
theorem dX5_drawn_80 : decode cX5_drawn 80 = .ok (.getfield 26, 3) := by decide +kernel
theorem dX5_drawn_83 : decode cX5_drawn 83 = .ok (.getfield 146, 3) := by decide +kernel
theorem dX5_drawn_86 : decode cX5_drawn 86 = .ok (.ifCond .le 45, 3) := by decide +kernel
theorem dX5_drawn_89 : decode cX5_drawn 89 = .ok (.aload_n 0, 1) := by decide +kernel
theorem dX5_drawn_90 : decode cX5_drawn 90 = .ok (.getfield 26, 3) := by decide +kernel
theorem dX5_drawn_93 : decode cX5_drawn 93 = .ok (.getfield 244, 3) := by decide +kernel
theorem dX5_drawn_96 : decode cX5_drawn 96 = .ok (.ifCond .le 35, 3) := by decide +kernel
theorem dX5_drawn_99 : decode cX5_drawn 99 = .ok (.aload_n 0, 1) := by decide +kernel
theorem dX5_drawn_100 : decode cX5_drawn 100 = .ok (.getfield 44, 3) := by decide +kernel
theorem dX5_drawn_103 : decode cX5_drawn 103 = .ok (.getfield 178, 3) := by decide +kernel
theorem dX5_drawn_106 : decode cX5_drawn 106 = .ok (.lload 4, 2) := by decide +kernel
theorem dX5_drawn_108 : decode cX5_drawn 108 = .ok (.aload_n 0, 1) := by decide +kernel
theorem dX5_drawn_109 : decode cX5_drawn 109 = .ok (.getfield 26, 3) := by decide +kernel
theorem dX5_drawn_112 : decode cX5_drawn 112 = .ok (.getfield 146, 3) := by decide +kernel
theorem dX5_drawn_115 : decode cX5_drawn 115 = .ok (.i2l, 1) := by decide +kernel
theorem dX5_drawn_116 : decode cX5_drawn 116 = .ok (.lrem, 1) := by decide +kernel
theorem dX5_drawn_117 : decode cX5_drawn 117 = .ok (.l2i, 1) := by decide +kernel
theorem dX5_drawn_118 : decode cX5_drawn 118 = .ok (.lload 4, 2) := by decide +kernel
theorem dX5_drawn_120 : decode cX5_drawn 120 = .ok (.aload_n 0, 1) := by decide +kernel
theorem dX5_drawn_121 : decode cX5_drawn 121 = .ok (.getfield 26, 3) := by decide +kernel
theorem dX5_drawn_124 : decode cX5_drawn 124 = .ok (.getfield 244, 3) := by decide +kernel
theorem dX5_drawn_127 : decode cX5_drawn 127 = .ok (.i2l, 1) := by decide +kernel
theorem dX5_drawn_128 : decode cX5_drawn 128 = .ok (.lrem, 1) := by decide +kernel
theorem dX5_drawn_129 : decode cX5_drawn 129 = .ok (.l2i, 1) := by decide +kernel
theorem dX5_drawn_130 : decode cX5_drawn 130 = .ok (.iastore, 1) := by decide +kernel
theorem dX5_drawn_131 : decode cX5_drawn 131 = .ok (.aload_n 0, 1) := by decide +kernel
theorem dX5_drawn_132 : decode cX5_drawn 132 = .ok (.getfield 44, 3) := by decide +kernel
theorem dX5_drawn_135 : decode cX5_drawn 135 = .ok (.aload_n 0, 1) := by decide +kernel
theorem dX5_drawn_136 : decode cX5_drawn 136 = .ok (.getfield 26, 3) := by decide +kernel
theorem dX5_drawn_139 : decode cX5_drawn 139 = .ok (.invokevirtual 166, 3) := by decide +kernel
theorem dX5_drawn_142 : decode cX5_drawn 142 = .ok (.iinc 6 1, 3) := by decide +kernel
theorem dX5_drawn_145 : decode cX5_drawn 145 = .ok (.goto (-84), 3) := by decide +kernel
theorem dX5_drawn_148 : decode cX5_drawn 148 = .ok (.iload_n 3, 1) := by decide +kernel
theorem dX5_drawn_149 : decode cX5_drawn 149 = .ok (.ifCond .ne 13, 3) := by decide +kernel
theorem dX5_drawn_152 : decode cX5_drawn 152 = .ok (.aload_n 0, 1) := by decide +kernel
theorem dX5_drawn_153 : decode cX5_drawn 153 = .ok (.getfield 44, 3) := by decide +kernel
theorem dX5_drawn_156 : decode cX5_drawn 156 = .ok (.getfield 169, 3) := by decide +kernel
theorem dX5_drawn_159 : decode cX5_drawn 159 = .ok (.goto 18, 3) := by decide +kernel
theorem dX5_drawn_162 : decode cX5_drawn 162 = .ok (.aload_n 0, 1) := by decide +kernel
theorem dX5_drawn_163 : decode cX5_drawn 163 = .ok (.getfield 44, 3) := by decide +kernel
theorem dX5_drawn_166 : decode cX5_drawn 166 = .ok (.getfield 229, 3) := by decide +kernel
theorem dX5_drawn_169 : decode cX5_drawn 169 = .ok (.aload_n 0, 1) := by decide +kernel
theorem dX5_drawn_170 : decode cX5_drawn 170 = .ok (.getfield 33, 3) := by decide +kernel
theorem dX5_drawn_173 : decode cX5_drawn 173 = .ok (.getfield 229, 3) := by decide +kernel
theorem dX5_drawn_176 : decode cX5_drawn 176 = .ok (.isub, 1) := by decide +kernel
theorem dX5_drawn_177 : decode cX5_drawn 177 = .ok (.ireturn, 1) := by decide +kernel
theorem dX5_image_0 : decode cX5_image 0 = .ok (.iload_n 1, 1) := by decide +kernel
theorem dX5_image_1 : decode cX5_image 1 = .ok (.iconst 0, 1) := by decide +kernel
theorem dX5_image_2 : decode cX5_image 2 = .ok (.iconst 1, 1) := by decide +kernel
theorem dX5_image_3 : decode cX5_image 3 = .ok (.invokestatic 73, 3) := by decide +kernel
theorem dX5_image_6 : decode cX5_image 6 = .ok (.ifCond .ne 6, 3) := by decide +kernel
theorem dX5_image_9 : decode cX5_image 9 = .ok (.ldc 77, 2) := by decide +kernel
theorem dX5_image_11 : decode cX5_image 11 = .ok (.ireturn, 1) := by decide +kernel
theorem dX5_image_12 : decode cX5_image 12 = .ok (.aload_n 0, 1) := by decide +kernel
theorem dX5_image_13 : decode cX5_image 13 = .ok (.invokevirtual 156, 3) := by decide +kernel
theorem dX5_image_16 : decode cX5_image 16 = .ok (.ifCond .ne 6, 3) := by decide +kernel
theorem dX5_image_19 : decode cX5_image 19 = .ok (.ldc 152, 2) := by decide +kernel
theorem dX5_image_21 : decode cX5_image 21 = .ok (.ireturn, 1) := by decide +kernel
theorem dX5_image_22 : decode cX5_image 22 = .ok (.aload_n 0, 1) := by decide +kernel
theorem dX5_image_23 : decode cX5_image 23 = .ok (.getfield 53, 3) := by decide +kernel
theorem dX5_image_26 : decode cX5_image 26 = .ok (.iload_n 1, 1) := by decide +kernel
theorem dX5_image_27 : decode cX5_image 27 = .ok (.aaload, 1) := by decide +kernel
theorem dX5_image_28 : decode cX5_image 28 = .ok (.aload_n 0, 1) := by decide +kernel
theorem dX5_image_29 : decode cX5_image 29 = .ok (.getfield 26, 3) := by decide +kernel
theorem dX5_image_32 : decode cX5_image 32 = .ok (.invokevirtual 136, 3) := by decide +kernel
theorem dX5_image_35 : decode cX5_image 35 = .ok (.aload_n 0, 1) := by decide +kernel
theorem dX5_image_36 : decode cX5_image 36 = .ok (.getfield 57, 3) := by decide +kernel
theorem dX5_image_39 : decode cX5_image 39 = .ok (.iload_n 1, 1) := by decide +kernel
theorem dX5_image_40 : decode cX5_image 40 = .ok (.aaload, 1) := by decide +kernel
theorem dX5_image_41 : decode cX5_image 41 = .ok (.aload_n 0, 1) := by decide +kernel
theorem dX5_image_42 : decode cX5_image 42 = .ok (.getfield 33, 3) := by decide +kernel
theorem dX5_image_45 : decode cX5_image 45 = .ok (.invokevirtual 140, 3) := by decide +kernel
theorem dX5_image_48 : decode cX5_image 48 = .ok (.aload_n 0, 1) := by decide +kernel
theorem dX5_image_49 : decode cX5_image 49 = .ok (.dup, 1) := by decide +kernel
theorem dX5_image_50 : decode cX5_image 50 = .ok (.getfield 284, 3) := by decide +kernel
theorem dX5_image_53 : decode cX5_image 53 = .ok (.iconst 1, 1) := by decide +kernel
theorem dX5_image_54 : decode cX5_image 54 = .ok (.iload_n 1, 1) := by decide +kernel
theorem dX5_image_55 : decode cX5_image 55 = .ok (.ishl, 1) := by decide +kernel
theorem dX5_image_56 : decode cX5_image 56 = .ok (.ior, 1) := by decide +kernel
theorem dX5_image_57 : decode cX5_image 57 = .ok (.putfield 284, 3) := by decide +kernel
theorem dX5_image_60 : decode cX5_image 60 = .ok (.iconst 1, 1) := by decide +kernel
theorem dX5_image_61 : decode cX5_image 61 = .ok (.ireturn, 1) := by decide +kernel
theorem dX5_restore_0 : decode cX5_restore 0 = .ok (.iload_n 1, 1) := by decide +kernel
theorem dX5_restore_1 : decode cX5_restore 1 = .ok (.iconst 0, 1) := by decide +kernel
theorem dX5_restore_2 : decode cX5_restore 2 = .ok (.iconst 1, 1) := by decide +kernel
theorem dX5_restore_3 : decode cX5_restore 3 = .ok (.invokestatic 73, 3) := by decide +kernel
theorem dX5_restore_6 : decode cX5_restore 6 = .ok (.ifCond .ne 6, 3) := by decide +kernel
theorem dX5_restore_9 : decode cX5_restore 9 = .ok (.ldc 77, 2) := by decide +kernel
theorem dX5_restore_11 : decode cX5_restore 11 = .ok (.ireturn, 1) := by decide +kernel
theorem dX5_restore_12 : decode cX5_restore 12 = .ok (.aload_n 0, 1) := by decide +kernel
theorem dX5_restore_13 : decode cX5_restore 13 = .ok (.getfield 284, 3) := by decide +kernel
theorem dX5_restore_16 : decode cX5_restore 16 = .ok (.iload_n 1, 1) := by decide +kernel
theorem dX5_restore_17 : decode cX5_restore 17 = .ok (.invokestatic 187, 3) := by decide +kernel
theorem dX5_restore_20 : decode cX5_restore 20 = .ok (.ifCond .ne 6, 3) := by decide +kernel
theorem dX5_restore_23 : decode cX5_restore 23 = .ok (.ldc 152, 2) := by decide +kernel
theorem dX5_restore_25 : decode cX5_restore 25 = .ok (.ireturn, 1) := by decide +kernel
theorem dX5_restore_26 : decode cX5_restore 26 = .ok (.aload_n 0, 1) := by decide +kernel
theorem dX5_restore_27 : decode cX5_restore 27 = .ok (.getfield 26, 3) := by decide +kernel
theorem dX5_restore_30 : decode cX5_restore 30 = .ok (.aload_n 0, 1) := by decide +kernel
theorem dX5_restore_31 : decode cX5_restore 31 = .ok (.getfield 53, 3) := by decide +kernel
theorem dX5_restore_34 : decode cX5_restore 34 = .ok (.iload_n 1, 1) := by decide +kernel
theorem dX5_restore_35 : decode cX5_restore 35 = .ok (.aaload, 1) := by decide +kernel
theorem dX5_restore_36 : decode cX5_restore 36 = .ok (.invokevirtual 136, 3) := by decide +kernel
theorem dX5_restore_39 : decode cX5_restore 39 = .ok (.aload_n 0, 1) := by decide +kernel
theorem dX5_restore_40 : decode cX5_restore 40 = .ok (.getfield 33, 3) := by decide +kernel
theorem dX5_restore_43 : decode cX5_restore 43 = .ok (.aload_n 0, 1) := by decide +kernel
theorem dX5_restore_44 : decode cX5_restore 44 = .ok (.getfield 57, 3) := by decide +kernel
theorem dX5_restore_47 : decode cX5_restore 47 = .ok (.iload_n 1, 1) := by decide +kernel
theorem dX5_restore_48 : decode cX5_restore 48 = .ok (.aaload, 1) := by decide +kernel
theorem dX5_restore_49 : decode cX5_restore 49 = .ok (.invokevirtual 140, 3) := by decide +kernel
theorem dX5_restore_52 : decode cX5_restore 52 = .ok (.aload_n 0, 1) := by decide +kernel
theorem dX5_restore_53 : decode cX5_restore 53 = .ok (.getfield 40, 3) := by decide +kernel
theorem dX5_restore_56 : decode cX5_restore 56 = .ok (.invokevirtual 143, 3) := by decide +kernel
theorem dX5_restore_59 : decode cX5_restore 59 = .ok (.iconst 1, 1) := by decide +kernel
theorem dX5_restore_60 : decode cX5_restore 60 = .ok (.ireturn, 1) := by decide +kernel
theorem dX5_kind_0 : decode cX5_kind 0 = .ok (.aload_n 0, 1) := by decide +kernel
theorem dX5_kind_1 : decode cX5_kind 1 = .ok (.iload_n 1, 1) := by decide +kernel
theorem dX5_kind_2 : decode cX5_kind 2 = .ok (.invokevirtual 172, 3) := by decide +kernel
theorem dX5_kind_5 : decode cX5_kind 5 = .ok (.ifCond .eq 15, 3) := by decide +kernel
theorem dX5_kind_8 : decode cX5_kind 8 = .ok (.aload_n 0, 1) := by decide +kernel
theorem dX5_kind_9 : decode cX5_kind 9 = .ok (.getfield 33, 3) := by decide +kernel
theorem dX5_kind_12 : decode cX5_kind 12 = .ok (.getfield 287, 3) := by decide +kernel
theorem dX5_kind_15 : decode cX5_kind 15 = .ok (.iload_n 1, 1) := by decide +kernel
theorem dX5_kind_16 : decode cX5_kind 16 = .ok (.iaload, 1) := by decide +kernel
theorem dX5_kind_17 : decode cX5_kind 17 = .ok (.goto 5, 3) := by decide +kernel
theorem dX5_kind_20 : decode cX5_kind 20 = .ok (.ldc 77, 2) := by decide +kernel
theorem dX5_kind_22 : decode cX5_kind 22 = .ok (.ireturn, 1) := by decide +kernel
theorem dX5_as_0 : decode cX5_as 0 = .ok (.aload_n 0, 1) := by decide +kernel
theorem dX5_as_1 : decode cX5_as 1 = .ok (.iload_n 1, 1) := by decide +kernel
theorem dX5_as_2 : decode cX5_as 2 = .ok (.invokevirtual 172, 3) := by decide +kernel
theorem dX5_as_5 : decode cX5_as 5 = .ok (.ifCond .eq 12, 3) := by decide +kernel
theorem dX5_as_8 : decode cX5_as 8 = .ok (.iload_n 2, 1) := by decide +kernel
theorem dX5_as_9 : decode cX5_as 9 = .ok (.iconst 0, 1) := by decide +kernel
theorem dX5_as_10 : decode cX5_as 10 = .ok (.iconst 5, 1) := by decide +kernel
theorem dX5_as_11 : decode cX5_as 11 = .ok (.invokestatic 73, 3) := by decide +kernel
theorem dX5_as_14 : decode cX5_as 14 = .ok (.ifCond .ne 6, 3) := by decide +kernel
theorem dX5_as_17 : decode cX5_as 17 = .ok (.ldc 77, 2) := by decide +kernel
theorem dX5_as_19 : decode cX5_as 19 = .ok (.ireturn, 1) := by decide +kernel
theorem dX5_as_20 : decode cX5_as 20 = .ok (.aload_n 0, 1) := by decide +kernel
theorem dX5_as_21 : decode cX5_as 21 = .ok (.getfield 33, 3) := by decide +kernel
theorem dX5_as_24 : decode cX5_as 24 = .ok (.getfield 287, 3) := by decide +kernel
theorem dX5_as_27 : decode cX5_as 27 = .ok (.iload_n 1, 1) := by decide +kernel
theorem dX5_as_28 : decode cX5_as 28 = .ok (.iaload, 1) := by decide +kernel
theorem dX5_as_29 : decode cX5_as 29 = .ok (.iload_n 2, 1) := by decide +kernel
theorem dX5_as_30 : decode cX5_as 30 = .ok (.invokestatic 290, 3) := by decide +kernel
theorem dX5_as_33 : decode cX5_as 33 = .ok (.ifCond .eq 11, 3) := by decide +kernel
theorem dX5_as_36 : decode cX5_as 36 = .ok (.aload_n 0, 1) := by decide +kernel
theorem dX5_as_37 : decode cX5_as 37 = .ok (.iload_n 1, 1) := by decide +kernel
theorem dX5_as_38 : decode cX5_as 38 = .ok (.invokevirtual 86, 3) := by decide +kernel
theorem dX5_as_41 : decode cX5_as 41 = .ok (.goto 8, 3) := by decide +kernel
theorem dX5_as_44 : decode cX5_as 44 = .ok (.aload_n 0, 1) := by decide +kernel
theorem dX5_as_45 : decode cX5_as 45 = .ok (.iconst 3, 1) := by decide +kernel
theorem dX5_as_46 : decode cX5_as 46 = .ok (.invokevirtual 78, 3) := by decide +kernel
theorem dX5_as_49 : decode cX5_as 49 = .ok (.ireturn, 1) := by decide +kernel
theorem dX5_ask_0 : decode cX5_ask 0 = .ok (.aload_n 0, 1) := by decide +kernel
theorem dX5_ask_1 : decode cX5_ask 1 = .ok (.iload_n 1, 1) := by decide +kernel
theorem dX5_ask_2 : decode cX5_ask 2 = .ok (.invokevirtual 172, 3) := by decide +kernel
theorem dX5_ask_5 : decode cX5_ask 5 = .ok (.ifCond .eq 12, 3) := by decide +kernel
theorem dX5_ask_8 : decode cX5_ask 8 = .ok (.iload_n 2, 1) := by decide +kernel
theorem dX5_ask_9 : decode cX5_ask 9 = .ok (.iconst 0, 1) := by decide +kernel
theorem dX5_ask_10 : decode cX5_ask 10 = .ok (.iconst 1, 1) := by decide +kernel
theorem dX5_ask_11 : decode cX5_ask 11 = .ok (.invokestatic 73, 3) := by decide +kernel
theorem dX5_ask_14 : decode cX5_ask 14 = .ok (.ifCond .ne 6, 3) := by decide +kernel
theorem dX5_ask_17 : decode cX5_ask 17 = .ok (.ldc 77, 2) := by decide +kernel
theorem dX5_ask_19 : decode cX5_ask 19 = .ok (.ireturn, 1) := by decide +kernel
theorem dX5_ask_20 : decode cX5_ask 20 = .ok (.aload_n 0, 1) := by decide +kernel
theorem dX5_ask_21 : decode cX5_ask 21 = .ok (.iconst 0, 1) := by decide +kernel
theorem dX5_ask_22 : decode cX5_ask 22 = .ok (.putfield 294, 3) := by decide +kernel
theorem dX5_ask_25 : decode cX5_ask 25 = .ok (.aload_n 0, 1) := by decide +kernel
theorem dX5_ask_26 : decode cX5_ask 26 = .ok (.getfield 33, 3) := by decide +kernel
theorem dX5_ask_29 : decode cX5_ask 29 = .ok (.getfield 287, 3) := by decide +kernel
theorem dX5_ask_32 : decode cX5_ask 32 = .ok (.iload_n 1, 1) := by decide +kernel
theorem dX5_ask_33 : decode cX5_ask 33 = .ok (.iaload, 1) := by decide +kernel
theorem dX5_ask_34 : decode cX5_ask 34 = .ok (.iconst 1, 1) := by decide +kernel
theorem dX5_ask_35 : decode cX5_ask 35 = .ok (.invokestatic 290, 3) := by decide +kernel
theorem dX5_ask_38 : decode cX5_ask 38 = .ok (.istore_n 3, 1) := by decide +kernel
theorem dX5_ask_39 : decode cX5_ask 39 = .ok (.iload_n 2, 1) := by decide +kernel
theorem dX5_ask_40 : decode cX5_ask 40 = .ok (.ifCond .ne 21, 3) := by decide +kernel
theorem dX5_ask_43 : decode cX5_ask 43 = .ok (.iload_n 3, 1) := by decide +kernel
theorem dX5_ask_44 : decode cX5_ask 44 = .ok (.ifCond .eq 11, 3) := by decide +kernel
theorem dX5_ask_47 : decode cX5_ask 47 = .ok (.aload_n 0, 1) := by decide +kernel
theorem dX5_ask_48 : decode cX5_ask 48 = .ok (.iload_n 1, 1) := by decide +kernel
theorem dX5_ask_49 : decode cX5_ask 49 = .ok (.invokevirtual 297, 3) := by decide +kernel
theorem dX5_ask_52 : decode cX5_ask 52 = .ok (.goto 8, 3) := by decide +kernel
theorem dX5_ask_55 : decode cX5_ask 55 = .ok (.aload_n 0, 1) := by decide +kernel
theorem dX5_ask_56 : decode cX5_ask 56 = .ok (.iload_n 1, 1) := by decide +kernel
theorem dX5_ask_57 : decode cX5_ask 57 = .ok (.invokevirtual 300, 3) := by decide +kernel
theorem dX5_ask_60 : decode cX5_ask 60 = .ok (.ireturn, 1) := by decide +kernel
theorem dX5_ask_61 : decode cX5_ask 61 = .ok (.iload_n 3, 1) := by decide +kernel
theorem dX5_ask_62 : decode cX5_ask 62 = .ok (.ifCond .eq 11, 3) := by decide +kernel
theorem dX5_ask_65 : decode cX5_ask 65 = .ok (.aload_n 0, 1) := by decide +kernel
theorem dX5_ask_66 : decode cX5_ask 66 = .ok (.iload_n 1, 1) := by decide +kernel
theorem dX5_ask_67 : decode cX5_ask 67 = .ok (.invokevirtual 303, 3) := by decide +kernel
theorem dX5_ask_70 : decode cX5_ask 70 = .ok (.goto 8, 3) := by decide +kernel
theorem dX5_ask_73 : decode cX5_ask 73 = .ok (.aload_n 0, 1) := by decide +kernel
theorem dX5_ask_74 : decode cX5_ask 74 = .ok (.iload_n 1, 1) := by decide +kernel
theorem dX5_ask_75 : decode cX5_ask 75 = .ok (.invokevirtual 306, 3) := by decide +kernel
theorem dX5_ask_78 : decode cX5_ask 78 = .ok (.ireturn, 1) := by decide +kernel
theorem dX5_trace_0 : decode cX5_trace 0 = .ok (.iload_n 1, 1) := by decide +kernel
theorem dX5_trace_1 : decode cX5_trace 1 = .ok (.iconst 0, 1) := by decide +kernel
theorem dX5_trace_2 : decode cX5_trace 2 = .ok (.aload_n 0, 1) := by decide +kernel
theorem dX5_trace_3 : decode cX5_trace 3 = .ok (.getfield 294, 3) := by decide +kernel
theorem dX5_trace_6 : decode cX5_trace 6 = .ok (.iconst 1, 1) := by decide +kernel
theorem dX5_trace_7 : decode cX5_trace 7 = .ok (.isub, 1) := by decide +kernel
theorem dX5_trace_8 : decode cX5_trace 8 = .ok (.invokestatic 73, 3) := by decide +kernel
theorem dX5_trace_11 : decode cX5_trace 11 = .ok (.ifCond .eq 12, 3) := by decide +kernel
theorem dX5_trace_14 : decode cX5_trace 14 = .ok (.aload_n 0, 1) := by decide +kernel
theorem dX5_trace_15 : decode cX5_trace 15 = .ok (.getfield 65, 3) := by decide +kernel
theorem dX5_trace_18 : decode cX5_trace 18 = .ok (.iload_n 1, 1) := by decide +kernel
theorem dX5_trace_19 : decode cX5_trace 19 = .ok (.iaload, 1) := by decide +kernel
theorem dX5_trace_20 : decode cX5_trace 20 = .ok (.goto 5, 3) := by decide +kernel
theorem dX5_trace_23 : decode cX5_trace 23 = .ok (.ldc 232, 2) := by decide +kernel
theorem dX5_trace_25 : decode cX5_trace 25 = .ok (.ireturn, 1) := by decide +kernel
theorem dX5_count_0 : decode cX5_count 0 = .ok (.iload_n 1, 1) := by decide +kernel
theorem dX5_count_1 : decode cX5_count 1 = .ok (.tableswitch 146 0 9 #[55, 63, 71, 79, 87, 95, 114, 122, 130, 138], 55) := by decide +kernel
theorem dX5_count_56 : decode cX5_count 56 = .ok (.aload_n 0, 1) := by decide +kernel
theorem dX5_count_57 : decode cX5_count 57 = .ok (.getfield 10, 3) := by decide +kernel
theorem dX5_count_60 : decode cX5_count 60 = .ok (.invokevirtual 309, 3) := by decide +kernel
theorem dX5_count_63 : decode cX5_count 63 = .ok (.ireturn, 1) := by decide +kernel
theorem dX5_count_64 : decode cX5_count 64 = .ok (.aload_n 0, 1) := by decide +kernel
theorem dX5_count_65 : decode cX5_count 65 = .ok (.getfield 26, 3) := by decide +kernel
theorem dX5_count_68 : decode cX5_count 68 = .ok (.getfield 244, 3) := by decide +kernel
theorem dX5_count_71 : decode cX5_count 71 = .ok (.ireturn, 1) := by decide +kernel
theorem dX5_count_72 : decode cX5_count 72 = .ok (.aload_n 0, 1) := by decide +kernel
theorem dX5_count_73 : decode cX5_count 73 = .ok (.getfield 26, 3) := by decide +kernel
theorem dX5_count_76 : decode cX5_count 76 = .ok (.getfield 312, 3) := by decide +kernel
theorem dX5_count_79 : decode cX5_count 79 = .ok (.ireturn, 1) := by decide +kernel
theorem dX5_count_80 : decode cX5_count 80 = .ok (.aload_n 0, 1) := by decide +kernel
theorem dX5_count_81 : decode cX5_count 81 = .ok (.getfield 26, 3) := by decide +kernel
theorem dX5_count_84 : decode cX5_count 84 = .ok (.getfield 146, 3) := by decide +kernel
theorem dX5_count_87 : decode cX5_count 87 = .ok (.ireturn, 1) := by decide +kernel
theorem dX5_count_88 : decode cX5_count 88 = .ok (.aload_n 0, 1) := by decide +kernel
theorem dX5_count_89 : decode cX5_count 89 = .ok (.getfield 33, 3) := by decide +kernel
theorem dX5_count_92 : decode cX5_count 92 = .ok (.getfield 160, 3) := by decide +kernel
theorem dX5_count_95 : decode cX5_count 95 = .ok (.ireturn, 1) := by decide +kernel
theorem dX5_count_96 : decode cX5_count 96 = .ok (.aload_n 0, 1) := by decide +kernel
theorem dX5_count_97 : decode cX5_count 97 = .ok (.invokevirtual 156, 3) := by decide +kernel
theorem dX5_count_100 : decode cX5_count 100 = .ok (.ifCond .eq 13, 3) := by decide +kernel
theorem dX5_count_103 : decode cX5_count 103 = .ok (.aload_n 0, 1) := by decide +kernel
theorem dX5_count_104 : decode cX5_count 104 = .ok (.getfield 33, 3) := by decide +kernel
theorem dX5_count_107 : decode cX5_count 107 = .ok (.getfield 169, 3) := by decide +kernel
theorem dX5_count_110 : decode cX5_count 110 = .ok (.goto 4, 3) := by decide +kernel
theorem dX5_count_113 : decode cX5_count 113 = .ok (.iconst (-1), 1) := by decide +kernel
theorem dX5_count_114 : decode cX5_count 114 = .ok (.ireturn, 1) := by decide +kernel
theorem dX5_count_115 : decode cX5_count 115 = .ok (.aload_n 0, 1) := by decide +kernel
theorem dX5_count_116 : decode cX5_count 116 = .ok (.getfield 33, 3) := by decide +kernel
theorem dX5_count_119 : decode cX5_count 119 = .ok (.getfield 229, 3) := by decide +kernel
theorem dX5_count_122 : decode cX5_count 122 = .ok (.ireturn, 1) := by decide +kernel
theorem dX5_count_123 : decode cX5_count 123 = .ok (.aload_n 0, 1) := by decide +kernel
theorem dX5_count_124 : decode cX5_count 124 = .ok (.getfield 33, 3) := by decide +kernel
theorem dX5_count_127 : decode cX5_count 127 = .ok (.getfield 258, 3) := by decide +kernel
theorem dX5_count_130 : decode cX5_count 130 = .ok (.ireturn, 1) := by decide +kernel
theorem dX5_count_131 : decode cX5_count 131 = .ok (.aload_n 0, 1) := by decide +kernel
theorem dX5_count_132 : decode cX5_count 132 = .ok (.getfield 40, 3) := by decide +kernel
theorem dX5_count_135 : decode cX5_count 135 = .ok (.getfield 149, 3) := by decide +kernel
theorem dX5_count_138 : decode cX5_count 138 = .ok (.ireturn, 1) := by decide +kernel
theorem dX5_count_139 : decode cX5_count 139 = .ok (.aload_n 0, 1) := by decide +kernel
theorem dX5_count_140 : decode cX5_count 140 = .ok (.getfield 19, 3) := by decide +kernel
theorem dX5_count_143 : decode cX5_count 143 = .ok (.getfield 115, 3) := by decide +kernel
theorem dX5_count_146 : decode cX5_count 146 = .ok (.ireturn, 1) := by decide +kernel
theorem dX5_count_147 : decode cX5_count 147 = .ok (.ldc 77, 2) := by decide +kernel
theorem dX5_count_149 : decode cX5_count 149 = .ok (.ireturn, 1) := by decide +kernel
theorem dX5_status_0 : decode cX5_status 0 = .ok (.aload_n 0, 1) := by decide +kernel
theorem dX5_status_1 : decode cX5_status 1 = .ok (.getfield 315, 3) := by decide +kernel
theorem dX5_status_4 : decode cX5_status 4 = .ok (.ireturn, 1) := by decide +kernel
theorem dX5_within_0 : decode cX5_within 0 = .ok (.iload_n 0, 1) := by decide +kernel
theorem dX5_within_1 : decode cX5_within 1 = .ok (.iload_n 1, 1) := by decide +kernel
theorem dX5_within_2 : decode cX5_within 2 = .ok (.if_icmp .lt 12, 3) := by decide +kernel
theorem dX5_within_5 : decode cX5_within 5 = .ok (.iload_n 0, 1) := by decide +kernel
theorem dX5_within_6 : decode cX5_within 6 = .ok (.iload_n 2, 1) := by decide +kernel
theorem dX5_within_7 : decode cX5_within 7 = .ok (.if_icmp .gt 7, 3) := by decide +kernel
theorem dX5_within_10 : decode cX5_within 10 = .ok (.iconst 1, 1) := by decide +kernel
theorem dX5_within_11 : decode cX5_within 11 = .ok (.goto 4, 3) := by decide +kernel
theorem dX5_within_14 : decode cX5_within 14 = .ok (.iconst 0, 1) := by decide +kernel
theorem dX5_within_15 : decode cX5_within 15 = .ok (.ireturn, 1) := by decide +kernel
theorem dX5_bit_0 : decode cX5_bit 0 = .ok (.iload_n 0, 1) := by decide +kernel
theorem dX5_bit_1 : decode cX5_bit 1 = .ok (.iload_n 1, 1) := by decide +kernel
theorem dX5_bit_2 : decode cX5_bit 2 = .ok (.ishr, 1) := by decide +kernel
theorem dX5_bit_3 : decode cX5_bit 3 = .ok (.iconst 1, 1) := by decide +kernel
theorem dX5_bit_4 : decode cX5_bit 4 = .ok (.iand, 1) := by decide +kernel
theorem dX5_bit_5 : decode cX5_bit 5 = .ok (.ireturn, 1) := by decide +kernel
theorem dX5_isRow_0 : decode cX5_isRow 0 = .ok (.iload_n 0, 1) := by decide +kernel
theorem dX5_isRow_1 : decode cX5_isRow 1 = .ok (.iconst 0, 1) := by decide +kernel
theorem dX5_isRow_2 : decode cX5_isRow 2 = .ok (.bipush 7, 2) := by decide +kernel
theorem dX5_isRow_4 : decode cX5_isRow 4 = .ok (.invokestatic 73, 3) := by decide +kernel
theorem dX5_isRow_7 : decode cX5_isRow 7 = .ok (.ireturn, 1) := by decide +kernel
theorem dX5_hasLand_0 : decode cX5_hasLand 0 = .ok (.aload_n 0, 1) := by decide +kernel
theorem dX5_hasLand_1 : decode cX5_hasLand 1 = .ok (.getfield 26, 3) := by decide +kernel
theorem dX5_hasLand_4 : decode cX5_hasLand 4 = .ok (.getfield 244, 3) := by decide +kernel
theorem dX5_hasLand_7 : decode cX5_hasLand 7 = .ok (.ifCond .le 7, 3) := by decide +kernel
theorem dX5_hasLand_10 : decode cX5_hasLand 10 = .ok (.iconst 1, 1) := by decide +kernel
theorem dX5_hasLand_11 : decode cX5_hasLand 11 = .ok (.goto 4, 3) := by decide +kernel
theorem dX5_hasLand_14 : decode cX5_hasLand 14 = .ok (.iconst 0, 1) := by decide +kernel
theorem dX5_hasLand_15 : decode cX5_hasLand 15 = .ok (.ireturn, 1) := by decide +kernel
theorem dX5_isPlace_0 : decode cX5_isPlace 0 = .ok (.iload_n 1, 1) := by decide +kernel
theorem dX5_isPlace_1 : decode cX5_isPlace 1 = .ok (.iconst 0, 1) := by decide +kernel
theorem dX5_isPlace_2 : decode cX5_isPlace 2 = .ok (.aload_n 0, 1) := by decide +kernel
theorem dX5_isPlace_3 : decode cX5_isPlace 3 = .ok (.getfield 26, 3) := by decide +kernel
theorem dX5_isPlace_6 : decode cX5_isPlace 6 = .ok (.getfield 244, 3) := by decide +kernel
theorem dX5_isPlace_9 : decode cX5_isPlace 9 = .ok (.iconst 1, 1) := by decide +kernel
theorem dX5_isPlace_10 : decode cX5_isPlace 10 = .ok (.isub, 1) := by decide +kernel
theorem dX5_isPlace_11 : decode cX5_isPlace 11 = .ok (.invokestatic 73, 3) := by decide +kernel
theorem dX5_isPlace_14 : decode cX5_isPlace 14 = .ok (.ireturn, 1) := by decide +kernel
theorem dX5_isWisher_0 : decode cX5_isWisher 0 = .ok (.iload_n 1, 1) := by decide +kernel
theorem dX5_isWisher_1 : decode cX5_isWisher 1 = .ok (.iconst 0, 1) := by decide +kernel
theorem dX5_isWisher_2 : decode cX5_isWisher 2 = .ok (.aload_n 0, 1) := by decide +kernel
theorem dX5_isWisher_3 : decode cX5_isWisher 3 = .ok (.getfield 26, 3) := by decide +kernel
theorem dX5_isWisher_6 : decode cX5_isWisher 6 = .ok (.getfield 146, 3) := by decide +kernel
theorem dX5_isWisher_9 : decode cX5_isWisher 9 = .ok (.iconst 1, 1) := by decide +kernel
theorem dX5_isWisher_10 : decode cX5_isWisher 10 = .ok (.isub, 1) := by decide +kernel
theorem dX5_isWisher_11 : decode cX5_isWisher 11 = .ok (.invokestatic 73, 3) := by decide +kernel
theorem dX5_isWisher_14 : decode cX5_isWisher 14 = .ok (.ireturn, 1) := by decide +kernel
theorem dX5_found_0 : decode cX5_found 0 = .ok (.aload_n 0, 1) := by decide +kernel
theorem dX5_found_1 : decode cX5_found 1 = .ok (.iload_n 1, 1) := by decide +kernel
theorem dX5_found_2 : decode cX5_found 2 = .ok (.putfield 315, 3) := by decide +kernel
theorem dX5_found_5 : decode cX5_found 5 = .ok (.ldc_w 318, 3) := by decide +kernel
theorem dX5_found_8 : decode cX5_found 8 = .ok (.iload_n 1, 1) := by decide +kernel
theorem dX5_found_9 : decode cX5_found 9 = .ok (.isub, 1) := by decide +kernel
theorem dX5_found_10 : decode cX5_found 10 = .ok (.ireturn, 1) := by decide +kernel
theorem dX5_fine_0 : decode cX5_fine 0 = .ok (.aload_n 0, 1) := by decide +kernel
theorem dX5_fine_1 : decode cX5_fine 1 = .ok (.iconst 0, 1) := by decide +kernel
theorem dX5_fine_2 : decode cX5_fine 2 = .ok (.putfield 315, 3) := by decide +kernel
theorem dX5_fine_5 : decode cX5_fine 5 = .ok (.iload_n 1, 1) := by decide +kernel
theorem dX5_fine_6 : decode cX5_fine 6 = .ok (.ireturn, 1) := by decide +kernel
theorem dX5_isThereBy_0 : decode cX5_isThereBy 0 = .ok (.aload_n 0, 1) := by decide +kernel
theorem dX5_isThereBy_1 : decode cX5_isThereBy 1 = .ok (.getfield 44, 3) := by decide +kernel
theorem dX5_isThereBy_4 : decode cX5_isThereBy 4 = .ok (.aload_n 0, 1) := by decide +kernel
theorem dX5_isThereBy_5 : decode cX5_isThereBy 5 = .ok (.getfield 33, 3) := by decide +kernel
theorem dX5_isThereBy_8 : decode cX5_isThereBy 8 = .ok (.invokevirtual 140, 3) := by decide +kernel
theorem dX5_isThereBy_11 : decode cX5_isThereBy 11 = .ok (.aload_n 0, 1) := by decide +kernel
theorem dX5_isThereBy_12 : decode cX5_isThereBy 12 = .ok (.getfield 44, 3) := by decide +kernel
theorem dX5_isThereBy_15 : decode cX5_isThereBy 15 = .ok (.dup, 1) := by decide +kernel
theorem dX5_isThereBy_16 : decode cX5_isThereBy 16 = .ok (.getfield 184, 3) := by decide +kernel
theorem dX5_isThereBy_19 : decode cX5_isThereBy 19 = .ok (.aload_n 0, 1) := by decide +kernel
theorem dX5_isThereBy_20 : decode cX5_isThereBy 20 = .ok (.getfield 26, 3) := by decide +kernel
theorem dX5_isThereBy_23 : decode cX5_isThereBy 23 = .ok (.invokevirtual 233, 3) := by decide +kernel
theorem dX5_isThereBy_26 : decode cX5_isThereBy 26 = .ok (.iload_n 1, 1) := by decide +kernel
theorem dX5_isThereBy_27 : decode cX5_isThereBy 27 = .ok (.iconst (-1), 1) := by decide +kernel
theorem dX5_isThereBy_28 : decode cX5_isThereBy 28 = .ok (.ixor, 1) := by decide +kernel
theorem dX5_isThereBy_29 : decode cX5_isThereBy 29 = .ok (.iand, 1) := by decide +kernel
theorem dX5_isThereBy_30 : decode cX5_isThereBy 30 = .ok (.ior, 1) := by decide +kernel
theorem dX5_isThereBy_31 : decode cX5_isThereBy 31 = .ok (.putfield 184, 3) := by decide +kernel
theorem dX5_isThereBy_34 : decode cX5_isThereBy 34 = .ok (.aload_n 0, 1) := by decide +kernel
theorem dX5_isThereBy_35 : decode cX5_isThereBy 35 = .ok (.getfield 44, 3) := by decide +kernel
theorem dX5_isThereBy_38 : decode cX5_isThereBy 38 = .ok (.aload_n 0, 1) := by decide +kernel
theorem dX5_isThereBy_39 : decode cX5_isThereBy 39 = .ok (.getfield 26, 3) := by decide +kernel
theorem dX5_isThereBy_42 : decode cX5_isThereBy 42 = .ok (.iload_n 3, 1) := by decide +kernel
theorem dX5_isThereBy_43 : decode cX5_isThereBy 43 = .ok (.invokevirtual 225, 3) := by decide +kernel
theorem dX5_isThereBy_46 : decode cX5_isThereBy 46 = .ok (.aload_n 0, 1) := by decide +kernel
theorem dX5_isThereBy_47 : decode cX5_isThereBy 47 = .ok (.getfield 44, 3) := by decide +kernel
theorem dX5_isThereBy_50 : decode cX5_isThereBy 50 = .ok (.getfield 169, 3) := by decide +kernel
theorem dX5_isThereBy_53 : decode cX5_isThereBy 53 = .ok (.iload_n 2, 1) := by decide +kernel
theorem dX5_isThereBy_54 : decode cX5_isThereBy 54 = .ok (.if_icmp .ne 7, 3) := by decide +kernel
theorem dX5_isThereBy_57 : decode cX5_isThereBy 57 = .ok (.iconst 1, 1) := by decide +kernel
theorem dX5_isThereBy_58 : decode cX5_isThereBy 58 = .ok (.goto 4, 3) := by decide +kernel
theorem dX5_isThereBy_61 : decode cX5_isThereBy 61 = .ok (.iconst 0, 1) := by decide +kernel
theorem dX5_isThereBy_62 : decode cX5_isThereBy 62 = .ok (.ireturn, 1) := by decide +kernel
theorem dX5_comesAsTold_0 : decode cX5_comesAsTold 0 = .ok (.iconst 0, 1) := by decide +kernel
theorem dX5_comesAsTold_1 : decode cX5_comesAsTold 1 = .ok (.istore 4, 2) := by decide +kernel
theorem dX5_comesAsTold_3 : decode cX5_comesAsTold 3 = .ok (.iload 4, 2) := by decide +kernel
theorem dX5_comesAsTold_5 : decode cX5_comesAsTold 5 = .ok (.iload_n 3, 1) := by decide +kernel
theorem dX5_comesAsTold_6 : decode cX5_comesAsTold 6 = .ok (.if_icmp .ge 56, 3) := by decide +kernel
theorem dX5_comesAsTold_9 : decode cX5_comesAsTold 9 = .ok (.aload_n 0, 1) := by decide +kernel
theorem dX5_comesAsTold_10 : decode cX5_comesAsTold 10 = .ok (.getfield 44, 3) := by decide +kernel
theorem dX5_comesAsTold_13 : decode cX5_comesAsTold 13 = .ok (.aload_n 0, 1) := by decide +kernel
theorem dX5_comesAsTold_14 : decode cX5_comesAsTold 14 = .ok (.getfield 26, 3) := by decide +kernel
theorem dX5_comesAsTold_17 : decode cX5_comesAsTold 17 = .ok (.invokevirtual 166, 3) := by decide +kernel
theorem dX5_comesAsTold_20 : decode cX5_comesAsTold 20 = .ok (.aload_n 0, 1) := by decide +kernel
theorem dX5_comesAsTold_21 : decode cX5_comesAsTold 21 = .ok (.getfield 10, 3) := by decide +kernel
theorem dX5_comesAsTold_24 : decode cX5_comesAsTold 24 = .ok (.getfield 102, 3) := by decide +kernel
theorem dX5_comesAsTold_27 : decode cX5_comesAsTold 27 = .ok (.iload_n 1, 1) := by decide +kernel
theorem dX5_comesAsTold_28 : decode cX5_comesAsTold 28 = .ok (.aaload, 1) := by decide +kernel
theorem dX5_comesAsTold_29 : decode cX5_comesAsTold 29 = .ok (.iload_n 2, 1) := by decide +kernel
theorem dX5_comesAsTold_30 : decode cX5_comesAsTold 30 = .ok (.iload 4, 2) := by decide +kernel
theorem dX5_comesAsTold_32 : decode cX5_comesAsTold 32 = .ok (.iadd, 1) := by decide +kernel
theorem dX5_comesAsTold_33 : decode cX5_comesAsTold 33 = .ok (.iaload, 1) := by decide +kernel
theorem dX5_comesAsTold_34 : decode cX5_comesAsTold 34 = .ok (.istore 5, 2) := by decide +kernel
theorem dX5_comesAsTold_36 : decode cX5_comesAsTold 36 = .ok (.iload 5, 2) := by decide +kernel
theorem dX5_comesAsTold_38 : decode cX5_comesAsTold 38 = .ok (.iconst (-1), 1) := by decide +kernel
theorem dX5_comesAsTold_39 : decode cX5_comesAsTold 39 = .ok (.if_icmp .eq 17, 3) := by decide +kernel
theorem dX5_comesAsTold_42 : decode cX5_comesAsTold 42 = .ok (.iload 5, 2) := by decide +kernel
theorem dX5_comesAsTold_44 : decode cX5_comesAsTold 44 = .ok (.aload_n 0, 1) := by decide +kernel
theorem dX5_comesAsTold_45 : decode cX5_comesAsTold 45 = .ok (.getfield 44, 3) := by decide +kernel
theorem dX5_comesAsTold_48 : decode cX5_comesAsTold 48 = .ok (.getfield 169, 3) := by decide +kernel
theorem dX5_comesAsTold_51 : decode cX5_comesAsTold 51 = .ok (.if_icmp .eq 5, 3) := by decide +kernel
theorem dX5_comesAsTold_54 : decode cX5_comesAsTold 54 = .ok (.iconst 0, 1) := by decide +kernel
theorem dX5_comesAsTold_55 : decode cX5_comesAsTold 55 = .ok (.ireturn, 1) := by decide +kernel
theorem dX5_comesAsTold_56 : decode cX5_comesAsTold 56 = .ok (.iinc 4 1, 3) := by decide +kernel
theorem dX5_comesAsTold_59 : decode cX5_comesAsTold 59 = .ok (.goto (-56), 3) := by decide +kernel
theorem dX5_comesAsTold_62 : decode cX5_comesAsTold 62 = .ok (.iconst 1, 1) := by decide +kernel
theorem dX5_comesAsTold_63 : decode cX5_comesAsTold 63 = .ok (.ireturn, 1) := by decide +kernel
theorem dX5_goesBy_0 : decode cX5_goesBy 0 = .ok (.aload_n 0, 1) := by decide +kernel
theorem dX5_goesBy_1 : decode cX5_goesBy 1 = .ok (.getfield 44, 3) := by decide +kernel
theorem dX5_goesBy_4 : decode cX5_goesBy 4 = .ok (.aload_n 0, 1) := by decide +kernel
theorem dX5_goesBy_5 : decode cX5_goesBy 5 = .ok (.getfield 26, 3) := by decide +kernel
theorem dX5_goesBy_8 : decode cX5_goesBy 8 = .ok (.invokevirtual 233, 3) := by decide +kernel
theorem dX5_goesBy_11 : decode cX5_goesBy 11 = .ok (.iload_n 1, 1) := by decide +kernel
theorem dX5_goesBy_12 : decode cX5_goesBy 12 = .ok (.iconst (-1), 1) := by decide +kernel
theorem dX5_goesBy_13 : decode cX5_goesBy 13 = .ok (.ixor, 1) := by decide +kernel
theorem dX5_goesBy_14 : decode cX5_goesBy 14 = .ok (.iand, 1) := by decide +kernel
theorem dX5_goesBy_15 : decode cX5_goesBy 15 = .ok (.putfield 184, 3) := by decide +kernel
theorem dX5_goesBy_18 : decode cX5_goesBy 18 = .ok (.aload_n 0, 1) := by decide +kernel
theorem dX5_goesBy_19 : decode cX5_goesBy 19 = .ok (.getfield 44, 3) := by decide +kernel
theorem dX5_goesBy_22 : decode cX5_goesBy 22 = .ok (.aload_n 0, 1) := by decide +kernel
theorem dX5_goesBy_23 : decode cX5_goesBy 23 = .ok (.getfield 26, 3) := by decide +kernel
theorem dX5_goesBy_26 : decode cX5_goesBy 26 = .ok (.invokevirtual 210, 3) := by decide +kernel
theorem dX5_goesBy_29 : decode cX5_goesBy 29 = .ok (.aload_n 0, 1) := by decide +kernel
theorem dX5_goesBy_30 : decode cX5_goesBy 30 = .ok (.getfield 44, 3) := by decide +kernel
theorem dX5_goesBy_33 : decode cX5_goesBy 33 = .ok (.aload_n 0, 1) := by decide +kernel
theorem dX5_goesBy_34 : decode cX5_goesBy 34 = .ok (.getfield 26, 3) := by decide +kernel
theorem dX5_goesBy_37 : decode cX5_goesBy 37 = .ok (.invokevirtual 240, 3) := by decide +kernel
theorem dX5_goesBy_40 : decode cX5_goesBy 40 = .ok (.aload_n 0, 1) := by decide +kernel
theorem dX5_goesBy_41 : decode cX5_goesBy 41 = .ok (.getfield 44, 3) := by decide +kernel
theorem dX5_goesBy_44 : decode cX5_goesBy 44 = .ok (.getfield 169, 3) := by decide +kernel
theorem dX5_goesBy_47 : decode cX5_goesBy 47 = .ok (.if_icmp .eq 7, 3) := by decide +kernel
theorem dX5_goesBy_50 : decode cX5_goesBy 50 = .ok (.iconst 1, 1) := by decide +kernel
theorem dX5_goesBy_51 : decode cX5_goesBy 51 = .ok (.goto 4, 3) := by decide +kernel
theorem dX5_goesBy_54 : decode cX5_goesBy 54 = .ok (.iconst 0, 1) := by decide +kernel
theorem dX5_goesBy_55 : decode cX5_goesBy 55 = .ok (.ireturn, 1) := by decide +kernel
theorem dX5_power_0 : decode cX5_power 0 = .ok (.lconst 1, 1) := by decide +kernel
theorem dX5_power_1 : decode cX5_power 1 = .ok (.lstore_n 2, 1) := by decide +kernel
theorem dX5_power_2 : decode cX5_power 2 = .ok (.iconst 0, 1) := by decide +kernel
theorem dX5_power_3 : decode cX5_power 3 = .ok (.istore 4, 2) := by decide +kernel
theorem dX5_power_5 : decode cX5_power 5 = .ok (.iload 4, 2) := by decide +kernel
theorem dX5_power_7 : decode cX5_power 7 = .ok (.iload_n 1, 1) := by decide +kernel
theorem dX5_power_8 : decode cX5_power 8 = .ok (.if_icmp .ge 14, 3) := by decide +kernel
theorem dX5_power_11 : decode cX5_power 11 = .ok (.lload_n 2, 1) := by decide +kernel
theorem dX5_power_12 : decode cX5_power 12 = .ok (.iload_n 0, 1) := by decide +kernel
theorem dX5_power_13 : decode cX5_power 13 = .ok (.i2l, 1) := by decide +kernel
theorem dX5_power_14 : decode cX5_power 14 = .ok (.lmul, 1) := by decide +kernel
theorem dX5_power_15 : decode cX5_power 15 = .ok (.lstore_n 2, 1) := by decide +kernel
theorem dX5_power_16 : decode cX5_power 16 = .ok (.iinc 4 1, 3) := by decide +kernel
theorem dX5_power_19 : decode cX5_power 19 = .ok (.goto (-14), 3) := by decide +kernel
theorem dX5_power_22 : decode cX5_power 22 = .ok (.lload_n 2, 1) := by decide +kernel
theorem dX5_power_23 : decode cX5_power 23 = .ok (.lreturn, 1) := by decide +kernel
theorem dX5_commonDivisor_0 : decode cX5_commonDivisor 0 = .ok (.iconst 0, 1) := by decide +kernel
theorem dX5_commonDivisor_1 : decode cX5_commonDivisor 1 = .ok (.istore 4, 2) := by decide +kernel
theorem dX5_commonDivisor_3 : decode cX5_commonDivisor 3 = .ok (.iload 4, 2) := by decide +kernel
theorem dX5_commonDivisor_5 : decode cX5_commonDivisor 5 = .ok (.bipush 100, 2) := by decide +kernel
theorem dX5_commonDivisor_7 : decode cX5_commonDivisor 7 = .ok (.if_icmp .ge 25, 3) := by decide +kernel
theorem dX5_commonDivisor_10 : decode cX5_commonDivisor 10 = .ok (.lload_n 2, 1) := by decide +kernel
theorem dX5_commonDivisor_11 : decode cX5_commonDivisor 11 = .ok (.lconst 0, 1) := by decide +kernel
theorem dX5_commonDivisor_12 : decode cX5_commonDivisor 12 = .ok (.lcmp, 1) := by decide +kernel
theorem dX5_commonDivisor_13 : decode cX5_commonDivisor 13 = .ok (.ifCond .eq 19, 3) := by decide +kernel
theorem dX5_commonDivisor_16 : decode cX5_commonDivisor 16 = .ok (.lload_n 0, 1) := by decide +kernel
theorem dX5_commonDivisor_17 : decode cX5_commonDivisor 17 = .ok (.lload_n 2, 1) := by decide +kernel
theorem dX5_commonDivisor_18 : decode cX5_commonDivisor 18 = .ok (.lrem, 1) := by decide +kernel
theorem dX5_commonDivisor_19 : decode cX5_commonDivisor 19 = .ok (.lstore 5, 2) := by decide +kernel
theorem dX5_commonDivisor_21 : decode cX5_commonDivisor 21 = .ok (.lload_n 2, 1) := by decide +kernel
theorem dX5_commonDivisor_22 : decode cX5_commonDivisor 22 = .ok (.lstore_n 0, 1) := by decide +kernel
theorem dX5_commonDivisor_23 : decode cX5_commonDivisor 23 = .ok (.lload 5, 2) := by decide +kernel
theorem dX5_commonDivisor_25 : decode cX5_commonDivisor 25 = .ok (.lstore_n 2, 1) := by decide +kernel
theorem dX5_commonDivisor_26 : decode cX5_commonDivisor 26 = .ok (.iinc 4 1, 3) := by decide +kernel
theorem dX5_commonDivisor_29 : decode cX5_commonDivisor 29 = .ok (.goto (-26), 3) := by decide +kernel
theorem dX5_commonDivisor_32 : decode cX5_commonDivisor 32 = .ok (.lload_n 0, 1) := by decide +kernel
theorem dX5_commonDivisor_33 : decode cX5_commonDivisor 33 = .ok (.lreturn, 1) := by decide +kernel
theorem dX5_readText_0 : decode cX5_readText 0 = .ok (.aload_n 0, 1) := by decide +kernel
theorem dX5_readText_1 : decode cX5_readText 1 = .ok (.getfield 19, 3) := by decide +kernel
theorem dX5_readText_4 : decode cX5_readText 4 = .ok (.invokevirtual 319, 3) := by decide +kernel
theorem dX5_readText_7 : decode cX5_readText 7 = .ok (.aload_n 0, 1) := by decide +kernel
theorem dX5_readText_8 : decode cX5_readText 8 = .ok (.getfield 47, 3) := by decide +kernel
theorem dX5_readText_11 : decode cX5_readText 11 = .ok (.invokevirtual 322, 3) := by decide +kernel
theorem dX5_readText_14 : decode cX5_readText 14 = .ok (.aload_n 0, 1) := by decide +kernel
theorem dX5_readText_15 : decode cX5_readText 15 = .ok (.invokevirtual 325, 3) := by decide +kernel
theorem dX5_readText_18 : decode cX5_readText 18 = .ok (.iconst 0, 1) := by decide +kernel
theorem dX5_readText_19 : decode cX5_readText 19 = .ok (.istore_n 1, 1) := by decide +kernel
theorem dX5_readText_20 : decode cX5_readText 20 = .ok (.iload_n 1, 1) := by decide +kernel
theorem dX5_readText_21 : decode cX5_readText 21 = .ok (.bipush 120, 2) := by decide +kernel
theorem dX5_readText_23 : decode cX5_readText 23 = .ok (.if_icmp .ge 58, 3) := by decide +kernel
theorem dX5_readText_26 : decode cX5_readText 26 = .ok (.aload_n 0, 1) := by decide +kernel
theorem dX5_readText_27 : decode cX5_readText 27 = .ok (.getfield 19, 3) := by decide +kernel
theorem dX5_readText_30 : decode cX5_readText 30 = .ok (.invokevirtual 328, 3) := by decide +kernel
theorem dX5_readText_33 : decode cX5_readText 33 = .ok (.ifCond .eq 48, 3) := by decide +kernel
theorem dX5_readText_36 : decode cX5_readText 36 = .ok (.aload_n 0, 1) := by decide +kernel
theorem dX5_readText_37 : decode cX5_readText 37 = .ok (.getfield 19, 3) := by decide +kernel
theorem dX5_readText_40 : decode cX5_readText 40 = .ok (.invokevirtual 331, 3) := by decide +kernel
theorem dX5_readText_43 : decode cX5_readText 43 = .ok (.istore_n 2, 1) := by decide +kernel
theorem dX5_readText_44 : decode cX5_readText 44 = .ok (.iload_n 2, 1) := by decide +kernel
theorem dX5_readText_45 : decode cX5_readText 45 = .ok (.bipush 114, 2) := by decide +kernel
theorem dX5_readText_47 : decode cX5_readText 47 = .ok (.if_icmp .ne 20, 3) := by decide +kernel
theorem dX5_readText_50 : decode cX5_readText 50 = .ok (.aload_n 0, 1) := by decide +kernel
theorem dX5_readText_51 : decode cX5_readText 51 = .ok (.getfield 47, 3) := by decide +kernel
theorem dX5_readText_54 : decode cX5_readText 54 = .ok (.getfield 146, 3) := by decide +kernel
theorem dX5_readText_57 : decode cX5_readText 57 = .ok (.ifCond .ne 10, 3) := by decide +kernel
theorem dX5_readText_60 : decode cX5_readText 60 = .ok (.aload_n 0, 1) := by decide +kernel
theorem dX5_readText_61 : decode cX5_readText 61 = .ok (.invokevirtual 334, 3) := by decide +kernel
theorem dX5_readText_64 : decode cX5_readText 64 = .ok (.goto 11, 3) := by decide +kernel
theorem dX5_readText_67 : decode cX5_readText 67 = .ok (.aload_n 0, 1) := by decide +kernel
theorem dX5_readText_68 : decode cX5_readText 68 = .ok (.iload_n 2, 1) := by decide +kernel
theorem dX5_readText_69 : decode cX5_readText 69 = .ok (.invokestatic 337, 3) := by decide +kernel
theorem dX5_readText_72 : decode cX5_readText 72 = .ok (.invokevirtual 340, 3) := by decide +kernel
theorem dX5_readText_75 : decode cX5_readText 75 = .ok (.iinc 1 1, 3) := by decide +kernel
theorem dX5_readText_78 : decode cX5_readText 78 = .ok (.goto (-58), 3) := by decide +kernel
theorem dX5_readText_81 : decode cX5_readText 81 = .ok (.aload_n 0, 1) := by decide +kernel
theorem dX5_readText_82 : decode cX5_readText 82 = .ok (.getfield 47, 3) := by decide +kernel
theorem dX5_readText_85 : decode cX5_readText 85 = .ok (.invokevirtual 344, 3) := by decide +kernel
theorem dX5_readText_88 : decode cX5_readText 88 = .ok (.return_, 1) := by decide +kernel
theorem dX5_readLaw_0 : decode cX5_readLaw 0 = .ok (.aload_n 0, 1) := by decide +kernel
theorem dX5_readLaw_1 : decode cX5_readLaw 1 = .ok (.getfield 19, 3) := by decide +kernel
theorem dX5_readLaw_4 : decode cX5_readLaw 4 = .ok (.bipush 99, 2) := by decide +kernel
theorem dX5_readLaw_6 : decode cX5_readLaw 6 = .ok (.invokevirtual 347, 3) := by decide +kernel
theorem dX5_readLaw_9 : decode cX5_readLaw 9 = .ok (.aload_n 0, 1) := by decide +kernel
theorem dX5_readLaw_10 : decode cX5_readLaw 10 = .ok (.getfield 47, 3) := by decide +kernel
theorem dX5_readLaw_13 : decode cX5_readLaw 13 = .ok (.aload_n 0, 1) := by decide +kernel
theorem dX5_readLaw_14 : decode cX5_readLaw 14 = .ok (.getfield 19, 3) := by decide +kernel
theorem dX5_readLaw_17 : decode cX5_readLaw 17 = .ok (.iconst 2, 1) := by decide +kernel
theorem dX5_readLaw_18 : decode cX5_readLaw 18 = .ok (.bipush 6, 2) := by decide +kernel
theorem dX5_readLaw_20 : decode cX5_readLaw 20 = .ok (.invokevirtual 350, 3) := by decide +kernel
theorem dX5_readLaw_23 : decode cX5_readLaw 23 = .ok (.putfield 244, 3) := by decide +kernel
theorem dX5_readLaw_26 : decode cX5_readLaw 26 = .ok (.aload_n 0, 1) := by decide +kernel
theorem dX5_readLaw_27 : decode cX5_readLaw 27 = .ok (.getfield 19, 3) := by decide +kernel
theorem dX5_readLaw_30 : decode cX5_readLaw 30 = .ok (.bipush 44, 2) := by decide +kernel
theorem dX5_readLaw_32 : decode cX5_readLaw 32 = .ok (.invokevirtual 347, 3) := by decide +kernel
theorem dX5_readLaw_35 : decode cX5_readLaw 35 = .ok (.aload_n 0, 1) := by decide +kernel
theorem dX5_readLaw_36 : decode cX5_readLaw 36 = .ok (.getfield 50, 3) := by decide +kernel
theorem dX5_readLaw_39 : decode cX5_readLaw 39 = .ok (.aload_n 0, 1) := by decide +kernel
theorem dX5_readLaw_40 : decode cX5_readLaw 40 = .ok (.getfield 19, 3) := by decide +kernel
theorem dX5_readLaw_43 : decode cX5_readLaw 43 = .ok (.iconst 0, 1) := by decide +kernel
theorem dX5_readLaw_44 : decode cX5_readLaw 44 = .ok (.aload_n 0, 1) := by decide +kernel
theorem dX5_readLaw_45 : decode cX5_readLaw 45 = .ok (.getfield 47, 3) := by decide +kernel
theorem dX5_readLaw_48 : decode cX5_readLaw 48 = .ok (.getfield 244, 3) := by decide +kernel
theorem dX5_readLaw_51 : decode cX5_readLaw 51 = .ok (.iconst 1, 1) := by decide +kernel
theorem dX5_readLaw_52 : decode cX5_readLaw 52 = .ok (.isub, 1) := by decide +kernel
theorem dX5_readLaw_53 : decode cX5_readLaw 53 = .ok (.invokevirtual 350, 3) := by decide +kernel
theorem dX5_readLaw_56 : decode cX5_readLaw 56 = .ok (.putfield 169, 3) := by decide +kernel
theorem dX5_readLaw_59 : decode cX5_readLaw 59 = .ok (.aload_n 0, 1) := by decide +kernel
theorem dX5_readLaw_60 : decode cX5_readLaw 60 = .ok (.getfield 19, 3) := by decide +kernel
theorem dX5_readLaw_63 : decode cX5_readLaw 63 = .ok (.bipush 44, 2) := by decide +kernel
theorem dX5_readLaw_65 : decode cX5_readLaw 65 = .ok (.invokevirtual 347, 3) := by decide +kernel
theorem dX5_readLaw_68 : decode cX5_readLaw 68 = .ok (.aload_n 0, 1) := by decide +kernel
theorem dX5_readLaw_69 : decode cX5_readLaw 69 = .ok (.getfield 47, 3) := by decide +kernel
theorem dX5_readLaw_72 : decode cX5_readLaw 72 = .ok (.aload_n 0, 1) := by decide +kernel
theorem dX5_readLaw_73 : decode cX5_readLaw 73 = .ok (.getfield 19, 3) := by decide +kernel
theorem dX5_readLaw_76 : decode cX5_readLaw 76 = .ok (.iconst 0, 1) := by decide +kernel
theorem dX5_readLaw_77 : decode cX5_readLaw 77 = .ok (.bipush 20, 2) := by decide +kernel
theorem dX5_readLaw_79 : decode cX5_readLaw 79 = .ok (.invokevirtual 350, 3) := by decide +kernel
theorem dX5_readLaw_82 : decode cX5_readLaw 82 = .ok (.putfield 353, 3) := by decide +kernel
theorem dX5_readLaw_85 : decode cX5_readLaw 85 = .ok (.aload_n 0, 1) := by decide +kernel
theorem dX5_readLaw_86 : decode cX5_readLaw 86 = .ok (.getfield 19, 3) := by decide +kernel
theorem dX5_readLaw_89 : decode cX5_readLaw 89 = .ok (.bipush 44, 2) := by decide +kernel
theorem dX5_readLaw_91 : decode cX5_readLaw 91 = .ok (.invokevirtual 347, 3) := by decide +kernel
theorem dX5_readLaw_94 : decode cX5_readLaw 94 = .ok (.aload_n 0, 1) := by decide +kernel
theorem dX5_readLaw_95 : decode cX5_readLaw 95 = .ok (.getfield 47, 3) := by decide +kernel
theorem dX5_readLaw_98 : decode cX5_readLaw 98 = .ok (.aload_n 0, 1) := by decide +kernel
theorem dX5_readLaw_99 : decode cX5_readLaw 99 = .ok (.getfield 19, 3) := by decide +kernel
theorem dX5_readLaw_102 : decode cX5_readLaw 102 = .ok (.iconst 0, 1) := by decide +kernel
theorem dX5_readLaw_103 : decode cX5_readLaw 103 = .ok (.iconst 5, 1) := by decide +kernel
theorem dX5_readLaw_104 : decode cX5_readLaw 104 = .ok (.invokevirtual 350, 3) := by decide +kernel
theorem dX5_readLaw_107 : decode cX5_readLaw 107 = .ok (.putfield 356, 3) := by decide +kernel
theorem dX5_readLaw_110 : decode cX5_readLaw 110 = .ok (.aload_n 0, 1) := by decide +kernel
theorem dX5_readLaw_111 : decode cX5_readLaw 111 = .ok (.getfield 19, 3) := by decide +kernel
theorem dX5_readLaw_114 : decode cX5_readLaw 114 = .ok (.bipush 59, 2) := by decide +kernel
theorem dX5_readLaw_116 : decode cX5_readLaw 116 = .ok (.invokevirtual 347, 3) := by decide +kernel
theorem dX5_readLaw_119 : decode cX5_readLaw 119 = .ok (.return_, 1) := by decide +kernel
theorem dX5_readRoad_0 : decode cX5_readRoad 0 = .ok (.aload_n 0, 1) := by decide +kernel
theorem dX5_readRoad_1 : decode cX5_readRoad 1 = .ok (.getfield 47, 3) := by decide +kernel
theorem dX5_readRoad_4 : decode cX5_readRoad 4 = .ok (.getfield 312, 3) := by decide +kernel
theorem dX5_readRoad_7 : decode cX5_readRoad 7 = .ok (.bipush 10, 2) := by decide +kernel
theorem dX5_readRoad_9 : decode cX5_readRoad 9 = .ok (.if_icmp .lt 19, 3) := by decide +kernel
theorem dX5_readRoad_12 : decode cX5_readRoad 12 = .ok (.aload_n 0, 1) := by decide +kernel
theorem dX5_readRoad_13 : decode cX5_readRoad 13 = .ok (.getfield 19, 3) := by decide +kernel
theorem dX5_readRoad_16 : decode cX5_readRoad 16 = .ok (.iconst 3, 1) := by decide +kernel
theorem dX5_readRoad_17 : decode cX5_readRoad 17 = .ok (.aload_n 0, 1) := by decide +kernel
theorem dX5_readRoad_18 : decode cX5_readRoad 18 = .ok (.getfield 19, 3) := by decide +kernel
theorem dX5_readRoad_21 : decode cX5_readRoad 21 = .ok (.getfield 359, 3) := by decide +kernel
theorem dX5_readRoad_24 : decode cX5_readRoad 24 = .ok (.invokevirtual 362, 3) := by decide +kernel
theorem dX5_readRoad_27 : decode cX5_readRoad 27 = .ok (.return_, 1) := by decide +kernel
theorem dX5_readRoad_28 : decode cX5_readRoad 28 = .ok (.aload_n 0, 1) := by decide +kernel
theorem dX5_readRoad_29 : decode cX5_readRoad 29 = .ok (.getfield 19, 3) := by decide +kernel
theorem dX5_readRoad_32 : decode cX5_readRoad 32 = .ok (.bipush 114, 2) := by decide +kernel
theorem dX5_readRoad_34 : decode cX5_readRoad 34 = .ok (.invokevirtual 347, 3) := by decide +kernel
theorem dX5_readRoad_37 : decode cX5_readRoad 37 = .ok (.aload_n 0, 1) := by decide +kernel
theorem dX5_readRoad_38 : decode cX5_readRoad 38 = .ok (.getfield 19, 3) := by decide +kernel
theorem dX5_readRoad_41 : decode cX5_readRoad 41 = .ok (.iconst 0, 1) := by decide +kernel
theorem dX5_readRoad_42 : decode cX5_readRoad 42 = .ok (.aload_n 0, 1) := by decide +kernel
theorem dX5_readRoad_43 : decode cX5_readRoad 43 = .ok (.getfield 47, 3) := by decide +kernel
theorem dX5_readRoad_46 : decode cX5_readRoad 46 = .ok (.getfield 244, 3) := by decide +kernel
theorem dX5_readRoad_49 : decode cX5_readRoad 49 = .ok (.iconst 1, 1) := by decide +kernel
theorem dX5_readRoad_50 : decode cX5_readRoad 50 = .ok (.isub, 1) := by decide +kernel
theorem dX5_readRoad_51 : decode cX5_readRoad 51 = .ok (.invokevirtual 350, 3) := by decide +kernel
theorem dX5_readRoad_54 : decode cX5_readRoad 54 = .ok (.istore_n 1, 1) := by decide +kernel
theorem dX5_readRoad_55 : decode cX5_readRoad 55 = .ok (.aload_n 0, 1) := by decide +kernel
theorem dX5_readRoad_56 : decode cX5_readRoad 56 = .ok (.getfield 19, 3) := by decide +kernel
theorem dX5_readRoad_59 : decode cX5_readRoad 59 = .ok (.bipush 44, 2) := by decide +kernel
theorem dX5_readRoad_61 : decode cX5_readRoad 61 = .ok (.invokevirtual 347, 3) := by decide +kernel
theorem dX5_readRoad_64 : decode cX5_readRoad 64 = .ok (.aload_n 0, 1) := by decide +kernel
theorem dX5_readRoad_65 : decode cX5_readRoad 65 = .ok (.getfield 19, 3) := by decide +kernel
theorem dX5_readRoad_68 : decode cX5_readRoad 68 = .ok (.getfield 359, 3) := by decide +kernel
theorem dX5_readRoad_71 : decode cX5_readRoad 71 = .ok (.istore_n 2, 1) := by decide +kernel
theorem dX5_readRoad_72 : decode cX5_readRoad 72 = .ok (.aload_n 0, 1) := by decide +kernel
theorem dX5_readRoad_73 : decode cX5_readRoad 73 = .ok (.getfield 19, 3) := by decide +kernel
theorem dX5_readRoad_76 : decode cX5_readRoad 76 = .ok (.iconst 0, 1) := by decide +kernel
theorem dX5_readRoad_77 : decode cX5_readRoad 77 = .ok (.aload_n 0, 1) := by decide +kernel
theorem dX5_readRoad_78 : decode cX5_readRoad 78 = .ok (.getfield 47, 3) := by decide +kernel
theorem dX5_readRoad_81 : decode cX5_readRoad 81 = .ok (.getfield 244, 3) := by decide +kernel
theorem dX5_readRoad_84 : decode cX5_readRoad 84 = .ok (.iconst 1, 1) := by decide +kernel
theorem dX5_readRoad_85 : decode cX5_readRoad 85 = .ok (.isub, 1) := by decide +kernel
theorem dX5_readRoad_86 : decode cX5_readRoad 86 = .ok (.invokevirtual 350, 3) := by decide +kernel
theorem dX5_readRoad_89 : decode cX5_readRoad 89 = .ok (.istore_n 3, 1) := by decide +kernel
theorem dX5_readRoad_90 : decode cX5_readRoad 90 = .ok (.aload_n 0, 1) := by decide +kernel
theorem dX5_readRoad_91 : decode cX5_readRoad 91 = .ok (.getfield 19, 3) := by decide +kernel
theorem dX5_readRoad_94 : decode cX5_readRoad 94 = .ok (.getfield 126, 3) := by decide +kernel
theorem dX5_readRoad_97 : decode cX5_readRoad 97 = .ok (.ifCond .ne 24, 3) := by decide +kernel
theorem dX5_readRoad_100 : decode cX5_readRoad 100 = .ok (.aload_n 0, 1) := by decide +kernel
theorem dX5_readRoad_101 : decode cX5_readRoad 101 = .ok (.getfield 47, 3) := by decide +kernel
theorem dX5_readRoad_104 : decode cX5_readRoad 104 = .ok (.iload_n 1, 1) := by decide +kernel
theorem dX5_readRoad_105 : decode cX5_readRoad 105 = .ok (.iload_n 3, 1) := by decide +kernel
theorem dX5_readRoad_106 : decode cX5_readRoad 106 = .ok (.invokevirtual 365, 3) := by decide +kernel
theorem dX5_readRoad_109 : decode cX5_readRoad 109 = .ok (.ifCond .ne 12, 3) := by decide +kernel
theorem dX5_readRoad_112 : decode cX5_readRoad 112 = .ok (.aload_n 0, 1) := by decide +kernel
theorem dX5_readRoad_113 : decode cX5_readRoad 113 = .ok (.getfield 19, 3) := by decide +kernel
theorem dX5_readRoad_116 : decode cX5_readRoad 116 = .ok (.iconst 2, 1) := by decide +kernel
theorem dX5_readRoad_117 : decode cX5_readRoad 117 = .ok (.iload_n 2, 1) := by decide +kernel
theorem dX5_readRoad_118 : decode cX5_readRoad 118 = .ok (.invokevirtual 362, 3) := by decide +kernel
theorem dX5_readRoad_121 : decode cX5_readRoad 121 = .ok (.aload_n 0, 1) := by decide +kernel
theorem dX5_readRoad_122 : decode cX5_readRoad 122 = .ok (.getfield 19, 3) := by decide +kernel
theorem dX5_readRoad_125 : decode cX5_readRoad 125 = .ok (.bipush 59, 2) := by decide +kernel
theorem dX5_readRoad_127 : decode cX5_readRoad 127 = .ok (.invokevirtual 347, 3) := by decide +kernel
theorem dX5_readRoad_130 : decode cX5_readRoad 130 = .ok (.return_, 1) := by decide +kernel
theorem dX5_readWisher_0 : decode cX5_readWisher 0 = .ok (.iload_n 1, 1) := by decide +kernel
theorem dX5_readWisher_1 : decode cX5_readWisher 1 = .ok (.ifCond .ne 19, 3) := by decide +kernel
theorem dX5_readWisher_4 : decode cX5_readWisher 4 = .ok (.aload_n 0, 1) := by decide +kernel
theorem dX5_readWisher_5 : decode cX5_readWisher 5 = .ok (.getfield 19, 3) := by decide +kernel
theorem dX5_readWisher_8 : decode cX5_readWisher 8 = .ok (.iconst 1, 1) := by decide +kernel
theorem dX5_readWisher_9 : decode cX5_readWisher 9 = .ok (.aload_n 0, 1) := by decide +kernel
theorem dX5_readWisher_10 : decode cX5_readWisher 10 = .ok (.getfield 19, 3) := by decide +kernel
theorem dX5_readWisher_13 : decode cX5_readWisher 13 = .ok (.getfield 359, 3) := by decide +kernel
theorem dX5_readWisher_16 : decode cX5_readWisher 16 = .ok (.invokevirtual 362, 3) := by decide +kernel
theorem dX5_readWisher_19 : decode cX5_readWisher 19 = .ok (.return_, 1) := by decide +kernel
theorem dX5_readWisher_20 : decode cX5_readWisher 20 = .ok (.aload_n 0, 1) := by decide +kernel
theorem dX5_readWisher_21 : decode cX5_readWisher 21 = .ok (.getfield 47, 3) := by decide +kernel
theorem dX5_readWisher_24 : decode cX5_readWisher 24 = .ok (.getfield 146, 3) := by decide +kernel
theorem dX5_readWisher_27 : decode cX5_readWisher 27 = .ok (.istore_n 2, 1) := by decide +kernel
theorem dX5_readWisher_28 : decode cX5_readWisher 28 = .ok (.iload_n 2, 1) := by decide +kernel
theorem dX5_readWisher_29 : decode cX5_readWisher 29 = .ok (.bipush 6, 2) := by decide +kernel
theorem dX5_readWisher_31 : decode cX5_readWisher 31 = .ok (.if_icmp .lt 19, 3) := by decide +kernel
theorem dX5_readWisher_34 : decode cX5_readWisher 34 = .ok (.aload_n 0, 1) := by decide +kernel
theorem dX5_readWisher_35 : decode cX5_readWisher 35 = .ok (.getfield 19, 3) := by decide +kernel
theorem dX5_readWisher_38 : decode cX5_readWisher 38 = .ok (.iconst 3, 1) := by decide +kernel
theorem dX5_readWisher_39 : decode cX5_readWisher 39 = .ok (.aload_n 0, 1) := by decide +kernel
theorem dX5_readWisher_40 : decode cX5_readWisher 40 = .ok (.getfield 19, 3) := by decide +kernel
theorem dX5_readWisher_43 : decode cX5_readWisher 43 = .ok (.getfield 359, 3) := by decide +kernel
theorem dX5_readWisher_46 : decode cX5_readWisher 46 = .ok (.invokevirtual 362, 3) := by decide +kernel
theorem dX5_readWisher_49 : decode cX5_readWisher 49 = .ok (.return_, 1) := by decide +kernel
theorem dX5_readWisher_50 : decode cX5_readWisher 50 = .ok (.aload_n 0, 1) := by decide +kernel
theorem dX5_readWisher_51 : decode cX5_readWisher 51 = .ok (.getfield 19, 3) := by decide +kernel
theorem dX5_readWisher_54 : decode cX5_readWisher 54 = .ok (.dup, 1) := by decide +kernel
theorem dX5_readWisher_55 : decode cX5_readWisher 55 = .ok (.getfield 359, 3) := by decide +kernel
theorem dX5_readWisher_58 : decode cX5_readWisher 58 = .ok (.iconst 1, 1) := by decide +kernel
theorem dX5_readWisher_59 : decode cX5_readWisher 59 = .ok (.iadd, 1) := by decide +kernel
theorem dX5_readWisher_60 : decode cX5_readWisher 60 = .ok (.putfield 359, 3) := by decide +kernel
theorem dX5_readWisher_63 : decode cX5_readWisher 63 = .ok (.aload_n 0, 1) := by decide +kernel
theorem dX5_readWisher_64 : decode cX5_readWisher 64 = .ok (.getfield 50, 3) := by decide +kernel
theorem dX5_readWisher_67 : decode cX5_readWisher 67 = .ok (.getfield 287, 3) := by decide +kernel
theorem dX5_readWisher_70 : decode cX5_readWisher 70 = .ok (.iload_n 2, 1) := by decide +kernel
theorem dX5_readWisher_71 : decode cX5_readWisher 71 = .ok (.iload_n 1, 1) := by decide +kernel
theorem dX5_readWisher_72 : decode cX5_readWisher 72 = .ok (.iastore, 1) := by decide +kernel
theorem dX5_readWisher_73 : decode cX5_readWisher 73 = .ok (.aload_n 0, 1) := by decide +kernel
theorem dX5_readWisher_74 : decode cX5_readWisher 74 = .ok (.getfield 47, 3) := by decide +kernel
theorem dX5_readWisher_77 : decode cX5_readWisher 77 = .ok (.getfield 196, 3) := by decide +kernel
theorem dX5_readWisher_80 : decode cX5_readWisher 80 = .ok (.iload_n 2, 1) := by decide +kernel
theorem dX5_readWisher_81 : decode cX5_readWisher 81 = .ok (.aload_n 0, 1) := by decide +kernel
theorem dX5_readWisher_82 : decode cX5_readWisher 82 = .ok (.getfield 19, 3) := by decide +kernel
theorem dX5_readWisher_85 : decode cX5_readWisher 85 = .ok (.iconst 0, 1) := by decide +kernel
theorem dX5_readWisher_86 : decode cX5_readWisher 86 = .ok (.aload_n 0, 1) := by decide +kernel
theorem dX5_readWisher_87 : decode cX5_readWisher 87 = .ok (.getfield 47, 3) := by decide +kernel
theorem dX5_readWisher_90 : decode cX5_readWisher 90 = .ok (.getfield 244, 3) := by decide +kernel
theorem dX5_readWisher_93 : decode cX5_readWisher 93 = .ok (.iconst 1, 1) := by decide +kernel
theorem dX5_readWisher_94 : decode cX5_readWisher 94 = .ok (.isub, 1) := by decide +kernel
theorem dX5_readWisher_95 : decode cX5_readWisher 95 = .ok (.invokevirtual 350, 3) := by decide +kernel
theorem dX5_readWisher_98 : decode cX5_readWisher 98 = .ok (.iastore, 1) := by decide +kernel
theorem dX5_readWisher_99 : decode cX5_readWisher 99 = .ok (.aload_n 0, 1) := by decide +kernel
theorem dX5_readWisher_100 : decode cX5_readWisher 100 = .ok (.getfield 19, 3) := by decide +kernel
theorem dX5_readWisher_103 : decode cX5_readWisher 103 = .ok (.bipush 44, 2) := by decide +kernel
theorem dX5_readWisher_105 : decode cX5_readWisher 105 = .ok (.invokevirtual 347, 3) := by decide +kernel
theorem dX5_readWisher_108 : decode cX5_readWisher 108 = .ok (.aload_n 0, 1) := by decide +kernel
theorem dX5_readWisher_109 : decode cX5_readWisher 109 = .ok (.getfield 50, 3) := by decide +kernel
theorem dX5_readWisher_112 : decode cX5_readWisher 112 = .ok (.getfield 178, 3) := by decide +kernel
theorem dX5_readWisher_115 : decode cX5_readWisher 115 = .ok (.iload_n 2, 1) := by decide +kernel
theorem dX5_readWisher_116 : decode cX5_readWisher 116 = .ok (.aload_n 0, 1) := by decide +kernel
theorem dX5_readWisher_117 : decode cX5_readWisher 117 = .ok (.getfield 19, 3) := by decide +kernel
theorem dX5_readWisher_120 : decode cX5_readWisher 120 = .ok (.iconst 0, 1) := by decide +kernel
theorem dX5_readWisher_121 : decode cX5_readWisher 121 = .ok (.aload_n 0, 1) := by decide +kernel
theorem dX5_readWisher_122 : decode cX5_readWisher 122 = .ok (.getfield 47, 3) := by decide +kernel
theorem dX5_readWisher_125 : decode cX5_readWisher 125 = .ok (.getfield 244, 3) := by decide +kernel
theorem dX5_readWisher_128 : decode cX5_readWisher 128 = .ok (.iconst 1, 1) := by decide +kernel
theorem dX5_readWisher_129 : decode cX5_readWisher 129 = .ok (.isub, 1) := by decide +kernel
theorem dX5_readWisher_130 : decode cX5_readWisher 130 = .ok (.invokevirtual 350, 3) := by decide +kernel
theorem dX5_readWisher_133 : decode cX5_readWisher 133 = .ok (.iastore, 1) := by decide +kernel
theorem dX5_readWisher_134 : decode cX5_readWisher 134 = .ok (.aload_n 0, 1) := by decide +kernel
theorem dX5_readWisher_135 : decode cX5_readWisher 135 = .ok (.getfield 19, 3) := by decide +kernel
theorem dX5_readWisher_138 : decode cX5_readWisher 138 = .ok (.bipush 44, 2) := by decide +kernel
theorem dX5_readWisher_140 : decode cX5_readWisher 140 = .ok (.invokevirtual 347, 3) := by decide +kernel
theorem dX5_readWisher_143 : decode cX5_readWisher 143 = .ok (.aload_n 0, 1) := by decide +kernel
theorem dX5_readWisher_144 : decode cX5_readWisher 144 = .ok (.getfield 50, 3) := by decide +kernel
theorem dX5_readWisher_147 : decode cX5_readWisher 147 = .ok (.getfield 181, 3) := by decide +kernel
theorem dX5_readWisher_150 : decode cX5_readWisher 150 = .ok (.iload_n 2, 1) := by decide +kernel
theorem dX5_readWisher_151 : decode cX5_readWisher 151 = .ok (.aload_n 0, 1) := by decide +kernel
theorem dX5_readWisher_152 : decode cX5_readWisher 152 = .ok (.getfield 19, 3) := by decide +kernel
theorem dX5_readWisher_155 : decode cX5_readWisher 155 = .ok (.iconst 0, 1) := by decide +kernel
theorem dX5_readWisher_156 : decode cX5_readWisher 156 = .ok (.bipush 40, 2) := by decide +kernel
theorem dX5_readWisher_158 : decode cX5_readWisher 158 = .ok (.invokevirtual 350, 3) := by decide +kernel
theorem dX5_readWisher_161 : decode cX5_readWisher 161 = .ok (.iastore, 1) := by decide +kernel
theorem dX5_readWisher_162 : decode cX5_readWisher 162 = .ok (.aload_n 0, 1) := by decide +kernel
theorem dX5_readWisher_163 : decode cX5_readWisher 163 = .ok (.getfield 19, 3) := by decide +kernel
theorem dX5_readWisher_166 : decode cX5_readWisher 166 = .ok (.bipush 44, 2) := by decide +kernel
theorem dX5_readWisher_168 : decode cX5_readWisher 168 = .ok (.invokevirtual 347, 3) := by decide +kernel
theorem dX5_readWisher_171 : decode cX5_readWisher 171 = .ok (.aload_n 0, 1) := by decide +kernel
theorem dX5_readWisher_172 : decode cX5_readWisher 172 = .ok (.getfield 47, 3) := by decide +kernel
theorem dX5_readWisher_175 : decode cX5_readWisher 175 = .ok (.getfield 368, 3) := by decide +kernel
theorem dX5_readWisher_178 : decode cX5_readWisher 178 = .ok (.iload_n 2, 1) := by decide +kernel
theorem dX5_readWisher_179 : decode cX5_readWisher 179 = .ok (.aload_n 0, 1) := by decide +kernel
theorem dX5_readWisher_180 : decode cX5_readWisher 180 = .ok (.getfield 19, 3) := by decide +kernel
theorem dX5_readWisher_183 : decode cX5_readWisher 183 = .ok (.iconst 0, 1) := by decide +kernel
theorem dX5_readWisher_184 : decode cX5_readWisher 184 = .ok (.iconst 5, 1) := by decide +kernel
theorem dX5_readWisher_185 : decode cX5_readWisher 185 = .ok (.invokevirtual 350, 3) := by decide +kernel
theorem dX5_readWisher_188 : decode cX5_readWisher 188 = .ok (.iastore, 1) := by decide +kernel
theorem dX5_readWisher_189 : decode cX5_readWisher 189 = .ok (.aload_n 0, 1) := by decide +kernel
theorem dX5_readWisher_190 : decode cX5_readWisher 190 = .ok (.getfield 19, 3) := by decide +kernel
theorem dX5_readWisher_193 : decode cX5_readWisher 193 = .ok (.bipush 44, 2) := by decide +kernel
theorem dX5_readWisher_195 : decode cX5_readWisher 195 = .ok (.invokevirtual 347, 3) := by decide +kernel
theorem dX5_readWisher_198 : decode cX5_readWisher 198 = .ok (.aload_n 0, 1) := by decide +kernel
theorem dX5_readWisher_199 : decode cX5_readWisher 199 = .ok (.getfield 47, 3) := by decide +kernel
theorem dX5_readWisher_202 : decode cX5_readWisher 202 = .ok (.getfield 371, 3) := by decide +kernel
theorem dX5_readWisher_205 : decode cX5_readWisher 205 = .ok (.iload_n 2, 1) := by decide +kernel
theorem dX5_readWisher_206 : decode cX5_readWisher 206 = .ok (.aload_n 0, 1) := by decide +kernel
theorem dX5_readWisher_207 : decode cX5_readWisher 207 = .ok (.getfield 19, 3) := by decide +kernel
theorem dX5_readWisher_210 : decode cX5_readWisher 210 = .ok (.iconst 1, 1) := by decide +kernel
theorem dX5_readWisher_211 : decode cX5_readWisher 211 = .ok (.bipush 6, 2) := by decide +kernel
theorem dX5_readWisher_213 : decode cX5_readWisher 213 = .ok (.invokevirtual 350, 3) := by decide +kernel
theorem dX5_readWisher_216 : decode cX5_readWisher 216 = .ok (.iastore, 1) := by decide +kernel
theorem dX5_readWisher_217 : decode cX5_readWisher 217 = .ok (.aload_n 0, 1) := by decide +kernel
theorem dX5_readWisher_218 : decode cX5_readWisher 218 = .ok (.getfield 19, 3) := by decide +kernel
theorem dX5_readWisher_221 : decode cX5_readWisher 221 = .ok (.bipush 59, 2) := by decide +kernel
theorem dX5_readWisher_223 : decode cX5_readWisher 223 = .ok (.invokevirtual 347, 3) := by decide +kernel
theorem dX5_readWisher_226 : decode cX5_readWisher 226 = .ok (.aload_n 0, 1) := by decide +kernel
theorem dX5_readWisher_227 : decode cX5_readWisher 227 = .ok (.getfield 47, 3) := by decide +kernel
theorem dX5_readWisher_230 : decode cX5_readWisher 230 = .ok (.dup, 1) := by decide +kernel
theorem dX5_readWisher_231 : decode cX5_readWisher 231 = .ok (.getfield 146, 3) := by decide +kernel
theorem dX5_readWisher_234 : decode cX5_readWisher 234 = .ok (.iconst 1, 1) := by decide +kernel
theorem dX5_readWisher_235 : decode cX5_readWisher 235 = .ok (.iadd, 1) := by decide +kernel
theorem dX5_readWisher_236 : decode cX5_readWisher 236 = .ok (.putfield 146, 3) := by decide +kernel
theorem dX5_readWisher_239 : decode cX5_readWisher 239 = .ok (.return_, 1) := by decide +kernel
theorem dX5_sortOf_0 : decode cX5_sortOf 0 = .ok (.iload_n 0, 1) := by decide +kernel
theorem dX5_sortOf_1 : decode cX5_sortOf 1 = .ok (.lookupswitch 61 #[(97, 51), (98, 59), (107, 57), (116, 55), (119, 53)], 51) := by decide +kernel
theorem dX5_sortOf_52 : decode cX5_sortOf 52 = .ok (.iconst 1, 1) := by decide +kernel
theorem dX5_sortOf_53 : decode cX5_sortOf 53 = .ok (.ireturn, 1) := by decide +kernel
theorem dX5_sortOf_54 : decode cX5_sortOf 54 = .ok (.iconst 2, 1) := by decide +kernel
theorem dX5_sortOf_55 : decode cX5_sortOf 55 = .ok (.ireturn, 1) := by decide +kernel
theorem dX5_sortOf_56 : decode cX5_sortOf 56 = .ok (.iconst 3, 1) := by decide +kernel
theorem dX5_sortOf_57 : decode cX5_sortOf 57 = .ok (.ireturn, 1) := by decide +kernel
theorem dX5_sortOf_58 : decode cX5_sortOf 58 = .ok (.iconst 4, 1) := by decide +kernel
theorem dX5_sortOf_59 : decode cX5_sortOf 59 = .ok (.ireturn, 1) := by decide +kernel
theorem dX5_sortOf_60 : decode cX5_sortOf 60 = .ok (.iconst 5, 1) := by decide +kernel
theorem dX5_sortOf_61 : decode cX5_sortOf 61 = .ok (.ireturn, 1) := by decide +kernel
theorem dX5_sortOf_62 : decode cX5_sortOf 62 = .ok (.iconst 0, 1) := by decide +kernel
theorem dX5_sortOf_63 : decode cX5_sortOf 63 = .ok (.ireturn, 1) := by decide +kernel
theorem dX5_isA_0 : decode cX5_isA 0 = .ok (.iload_n 1, 1) := by decide +kernel
theorem dX5_isA_1 : decode cX5_isA 1 = .ok (.tableswitch 74 0 4 #[35, 37, 74, 74, 58], 35) := by decide +kernel
theorem dX5_isA_36 : decode cX5_isA 36 = .ok (.iconst 1, 1) := by decide +kernel
theorem dX5_isA_37 : decode cX5_isA 37 = .ok (.ireturn, 1) := by decide +kernel
theorem dX5_isA_38 : decode cX5_isA 38 = .ok (.iload_n 0, 1) := by decide +kernel
theorem dX5_isA_39 : decode cX5_isA 39 = .ok (.iconst 1, 1) := by decide +kernel
theorem dX5_isA_40 : decode cX5_isA 40 = .ok (.if_icmp .eq 13, 3) := by decide +kernel
theorem dX5_isA_43 : decode cX5_isA 43 = .ok (.iload_n 0, 1) := by decide +kernel
theorem dX5_isA_44 : decode cX5_isA 44 = .ok (.iconst 2, 1) := by decide +kernel
theorem dX5_isA_45 : decode cX5_isA 45 = .ok (.if_icmp .eq 8, 3) := by decide +kernel
theorem dX5_isA_48 : decode cX5_isA 48 = .ok (.iload_n 0, 1) := by decide +kernel
theorem dX5_isA_49 : decode cX5_isA 49 = .ok (.iconst 3, 1) := by decide +kernel
theorem dX5_isA_50 : decode cX5_isA 50 = .ok (.if_icmp .ne 7, 3) := by decide +kernel
theorem dX5_isA_53 : decode cX5_isA 53 = .ok (.iconst 1, 1) := by decide +kernel
theorem dX5_isA_54 : decode cX5_isA 54 = .ok (.goto 4, 3) := by decide +kernel
theorem dX5_isA_57 : decode cX5_isA 57 = .ok (.iconst 0, 1) := by decide +kernel
theorem dX5_isA_58 : decode cX5_isA 58 = .ok (.ireturn, 1) := by decide +kernel
theorem dX5_isA_59 : decode cX5_isA 59 = .ok (.iload_n 0, 1) := by decide +kernel
theorem dX5_isA_60 : decode cX5_isA 60 = .ok (.iconst 4, 1) := by decide +kernel
theorem dX5_isA_61 : decode cX5_isA 61 = .ok (.if_icmp .eq 8, 3) := by decide +kernel
theorem dX5_isA_64 : decode cX5_isA 64 = .ok (.iload_n 0, 1) := by decide +kernel
theorem dX5_isA_65 : decode cX5_isA 65 = .ok (.iconst 5, 1) := by decide +kernel
theorem dX5_isA_66 : decode cX5_isA 66 = .ok (.if_icmp .ne 7, 3) := by decide +kernel
theorem dX5_isA_69 : decode cX5_isA 69 = .ok (.iconst 1, 1) := by decide +kernel
theorem dX5_isA_70 : decode cX5_isA 70 = .ok (.goto 4, 3) := by decide +kernel
theorem dX5_isA_73 : decode cX5_isA 73 = .ok (.iconst 0, 1) := by decide +kernel
theorem dX5_isA_74 : decode cX5_isA 74 = .ok (.ireturn, 1) := by decide +kernel
theorem dX5_isA_75 : decode cX5_isA 75 = .ok (.iload_n 0, 1) := by decide +kernel
theorem dX5_isA_76 : decode cX5_isA 76 = .ok (.iload_n 1, 1) := by decide +kernel
theorem dX5_isA_77 : decode cX5_isA 77 = .ok (.if_icmp .ne 7, 3) := by decide +kernel
theorem dX5_isA_80 : decode cX5_isA 80 = .ok (.iconst 1, 1) := by decide +kernel
theorem dX5_isA_81 : decode cX5_isA 81 = .ok (.goto 4, 3) := by decide +kernel
theorem dX5_isA_84 : decode cX5_isA 84 = .ok (.iconst 0, 1) := by decide +kernel
theorem dX5_isA_85 : decode cX5_isA 85 = .ok (.ireturn, 1) := by decide +kernel
theorem dX5_leave_0 : decode cX5_leave 0 = .ok (.aload_n 0, 1) := by decide +kernel
theorem dX5_leave_1 : decode cX5_leave 1 = .ok (.getfield 294, 3) := by decide +kernel
theorem dX5_leave_4 : decode cX5_leave 4 = .ok (.bipush 16, 2) := by decide +kernel
theorem dX5_leave_6 : decode cX5_leave 6 = .ok (.if_icmp .ge 23, 3) := by decide +kernel
theorem dX5_leave_9 : decode cX5_leave 9 = .ok (.aload_n 0, 1) := by decide +kernel
theorem dX5_leave_10 : decode cX5_leave 10 = .ok (.getfield 65, 3) := by decide +kernel
theorem dX5_leave_13 : decode cX5_leave 13 = .ok (.aload_n 0, 1) := by decide +kernel
theorem dX5_leave_14 : decode cX5_leave 14 = .ok (.getfield 294, 3) := by decide +kernel
theorem dX5_leave_17 : decode cX5_leave 17 = .ok (.iload_n 1, 1) := by decide +kernel
theorem dX5_leave_18 : decode cX5_leave 18 = .ok (.iastore, 1) := by decide +kernel
theorem dX5_leave_19 : decode cX5_leave 19 = .ok (.aload_n 0, 1) := by decide +kernel
theorem dX5_leave_20 : decode cX5_leave 20 = .ok (.dup, 1) := by decide +kernel
theorem dX5_leave_21 : decode cX5_leave 21 = .ok (.getfield 294, 3) := by decide +kernel
theorem dX5_leave_24 : decode cX5_leave 24 = .ok (.iconst 1, 1) := by decide +kernel
theorem dX5_leave_25 : decode cX5_leave 25 = .ok (.iadd, 1) := by decide +kernel
theorem dX5_leave_26 : decode cX5_leave 26 = .ok (.putfield 294, 3) := by decide +kernel
theorem dX5_leave_29 : decode cX5_leave 29 = .ok (.return_, 1) := by decide +kernel
theorem dX5_grownSize_0 : decode cX5_grownSize 0 = .ok (.aload_n 0, 1) := by decide +kernel
theorem dX5_grownSize_1 : decode cX5_grownSize 1 = .ok (.getfield 33, 3) := by decide +kernel
theorem dX5_grownSize_4 : decode cX5_grownSize 4 = .ok (.getfield 287, 3) := by decide +kernel
theorem dX5_grownSize_7 : decode cX5_grownSize 7 = .ok (.iload_n 1, 1) := by decide +kernel
theorem dX5_grownSize_8 : decode cX5_grownSize 8 = .ok (.iaload, 1) := by decide +kernel
theorem dX5_grownSize_9 : decode cX5_grownSize 9 = .ok (.iconst 2, 1) := by decide +kernel
theorem dX5_grownSize_10 : decode cX5_grownSize 10 = .ok (.if_icmp .ne 16, 3) := by decide +kernel
theorem dX5_grownSize_13 : decode cX5_grownSize 13 = .ok (.aload_n 0, 1) := by decide +kernel
theorem dX5_grownSize_14 : decode cX5_grownSize 14 = .ok (.bipush 12, 2) := by decide +kernel
theorem dX5_grownSize_16 : decode cX5_grownSize 16 = .ok (.invokevirtual 374, 3) := by decide +kernel
theorem dX5_grownSize_19 : decode cX5_grownSize 19 = .ok (.aload_n 0, 1) := by decide +kernel
theorem dX5_grownSize_20 : decode cX5_grownSize 20 = .ok (.iload_n 1, 1) := by decide +kernel
theorem dX5_grownSize_21 : decode cX5_grownSize 21 = .ok (.invokevirtual 377, 3) := by decide +kernel
theorem dX5_grownSize_24 : decode cX5_grownSize 24 = .ok (.ineg, 1) := by decide +kernel
theorem dX5_grownSize_25 : decode cX5_grownSize 25 = .ok (.ireturn, 1) := by decide +kernel
theorem dX5_grownSize_26 : decode cX5_grownSize 26 = .ok (.aload_n 0, 1) := by decide +kernel
theorem dX5_grownSize_27 : decode cX5_grownSize 27 = .ok (.iload_n 1, 1) := by decide +kernel
theorem dX5_grownSize_28 : decode cX5_grownSize 28 = .ok (.invokevirtual 377, 3) := by decide +kernel
theorem dX5_grownSize_31 : decode cX5_grownSize 31 = .ok (.ireturn, 1) := by decide +kernel
theorem dX5_sizeOfGrown_0 : decode cX5_sizeOfGrown 0 = .ok (.aload_n 0, 1) := by decide +kernel
theorem dX5_sizeOfGrown_1 : decode cX5_sizeOfGrown 1 = .ok (.bipush 11, 2) := by decide +kernel
theorem dX5_sizeOfGrown_3 : decode cX5_sizeOfGrown 3 = .ok (.invokevirtual 374, 3) := by decide +kernel
theorem dX5_sizeOfGrown_6 : decode cX5_sizeOfGrown 6 = .ok (.aload_n 0, 1) := by decide +kernel
theorem dX5_sizeOfGrown_7 : decode cX5_sizeOfGrown 7 = .ok (.iload_n 1, 1) := by decide +kernel
theorem dX5_sizeOfGrown_8 : decode cX5_sizeOfGrown 8 = .ok (.invokevirtual 380, 3) := by decide +kernel
theorem dX5_sizeOfGrown_11 : decode cX5_sizeOfGrown 11 = .ok (.istore_n 2, 1) := by decide +kernel
theorem dX5_sizeOfGrown_12 : decode cX5_sizeOfGrown 12 = .ok (.iload_n 2, 1) := by decide +kernel
theorem dX5_sizeOfGrown_13 : decode cX5_sizeOfGrown 13 = .ok (.aload_n 0, 1) := by decide +kernel
theorem dX5_sizeOfGrown_14 : decode cX5_sizeOfGrown 14 = .ok (.iload_n 1, 1) := by decide +kernel
theorem dX5_sizeOfGrown_15 : decode cX5_sizeOfGrown 15 = .ok (.invokevirtual 303, 3) := by decide +kernel
theorem dX5_sizeOfGrown_18 : decode cX5_sizeOfGrown 18 = .ok (.iadd, 1) := by decide +kernel
theorem dX5_sizeOfGrown_19 : decode cX5_sizeOfGrown 19 = .ok (.ireturn, 1) := by decide +kernel
theorem dX5_childSize_0 : decode cX5_childSize 0 = .ok (.aload_n 0, 1) := by decide +kernel
theorem dX5_childSize_1 : decode cX5_childSize 1 = .ok (.getfield 33, 3) := by decide +kernel
theorem dX5_childSize_4 : decode cX5_childSize 4 = .ok (.getfield 287, 3) := by decide +kernel
theorem dX5_childSize_7 : decode cX5_childSize 7 = .ok (.iload_n 1, 1) := by decide +kernel
theorem dX5_childSize_8 : decode cX5_childSize 8 = .ok (.iaload, 1) := by decide +kernel
theorem dX5_childSize_9 : decode cX5_childSize 9 = .ok (.iconst 5, 1) := by decide +kernel
theorem dX5_childSize_10 : decode cX5_childSize 10 = .ok (.if_icmp .ne 17, 3) := by decide +kernel
theorem dX5_childSize_13 : decode cX5_childSize 13 = .ok (.aload_n 0, 1) := by decide +kernel
theorem dX5_childSize_14 : decode cX5_childSize 14 = .ok (.bipush 14, 2) := by decide +kernel
theorem dX5_childSize_16 : decode cX5_childSize 16 = .ok (.invokevirtual 374, 3) := by decide +kernel
theorem dX5_childSize_19 : decode cX5_childSize 19 = .ok (.iconst 2, 1) := by decide +kernel
theorem dX5_childSize_20 : decode cX5_childSize 20 = .ok (.aload_n 0, 1) := by decide +kernel
theorem dX5_childSize_21 : decode cX5_childSize 21 = .ok (.iload_n 1, 1) := by decide +kernel
theorem dX5_childSize_22 : decode cX5_childSize 22 = .ok (.invokevirtual 383, 3) := by decide +kernel
theorem dX5_childSize_25 : decode cX5_childSize 25 = .ok (.imul, 1) := by decide +kernel
theorem dX5_childSize_26 : decode cX5_childSize 26 = .ok (.ireturn, 1) := by decide +kernel
theorem dX5_childSize_27 : decode cX5_childSize 27 = .ok (.aload_n 0, 1) := by decide +kernel
theorem dX5_childSize_28 : decode cX5_childSize 28 = .ok (.iload_n 1, 1) := by decide +kernel
theorem dX5_childSize_29 : decode cX5_childSize 29 = .ok (.invokevirtual 383, 3) := by decide +kernel
theorem dX5_childSize_32 : decode cX5_childSize 32 = .ok (.ireturn, 1) := by decide +kernel
theorem dX5_sizeOfChild_0 : decode cX5_sizeOfChild 0 = .ok (.aload_n 0, 1) := by decide +kernel
theorem dX5_sizeOfChild_1 : decode cX5_sizeOfChild 1 = .ok (.bipush 13, 2) := by decide +kernel
theorem dX5_sizeOfChild_3 : decode cX5_sizeOfChild 3 = .ok (.invokevirtual 374, 3) := by decide +kernel
theorem dX5_sizeOfChild_6 : decode cX5_sizeOfChild 6 = .ok (.aload_n 0, 1) := by decide +kernel
theorem dX5_sizeOfChild_7 : decode cX5_sizeOfChild 7 = .ok (.iload_n 1, 1) := by decide +kernel
theorem dX5_sizeOfChild_8 : decode cX5_sizeOfChild 8 = .ok (.invokevirtual 380, 3) := by decide +kernel
theorem dX5_sizeOfChild_11 : decode cX5_sizeOfChild 11 = .ok (.bipush 100, 2) := by decide +kernel
theorem dX5_sizeOfChild_13 : decode cX5_sizeOfChild 13 = .ok (.isub, 1) := by decide +kernel
theorem dX5_sizeOfChild_14 : decode cX5_sizeOfChild 14 = .ok (.ireturn, 1) := by decide +kernel
theorem dX5_lentSize_0 : decode cX5_lentSize 0 = .ok (.aload_n 0, 1) := by decide +kernel
theorem dX5_lentSize_1 : decode cX5_lentSize 1 = .ok (.bipush 10, 2) := by decide +kernel
theorem dX5_lentSize_3 : decode cX5_lentSize 3 = .ok (.invokevirtual 374, 3) := by decide +kernel
theorem dX5_lentSize_6 : decode cX5_lentSize 6 = .ok (.aload_n 0, 1) := by decide +kernel
theorem dX5_lentSize_7 : decode cX5_lentSize 7 = .ok (.getfield 33, 3) := by decide +kernel
theorem dX5_lentSize_10 : decode cX5_lentSize 10 = .ok (.getfield 181, 3) := by decide +kernel
theorem dX5_lentSize_13 : decode cX5_lentSize 13 = .ok (.iload_n 1, 1) := by decide +kernel
theorem dX5_lentSize_14 : decode cX5_lentSize 14 = .ok (.iaload, 1) := by decide +kernel
theorem dX5_lentSize_15 : decode cX5_lentSize 15 = .ok (.ireturn, 1) := by decide +kernel
theorem dX5_grownMark_0 : decode cX5_grownMark 0 = .ok (.aload_n 0, 1) := by decide +kernel
theorem dX5_grownMark_1 : decode cX5_grownMark 1 = .ok (.getfield 33, 3) := by decide +kernel
theorem dX5_grownMark_4 : decode cX5_grownMark 4 = .ok (.getfield 287, 3) := by decide +kernel
theorem dX5_grownMark_7 : decode cX5_grownMark 7 = .ok (.iload_n 1, 1) := by decide +kernel
theorem dX5_grownMark_8 : decode cX5_grownMark 8 = .ok (.iaload, 1) := by decide +kernel
theorem dX5_grownMark_9 : decode cX5_grownMark 9 = .ok (.lookupswitch 57 #[(2, 27), (3, 41)], 27) := by decide +kernel
theorem dX5_grownMark_36 : decode cX5_grownMark 36 = .ok (.aload_n 0, 1) := by decide +kernel
theorem dX5_grownMark_37 : decode cX5_grownMark 37 = .ok (.bipush 24, 2) := by decide +kernel
theorem dX5_grownMark_39 : decode cX5_grownMark 39 = .ok (.invokevirtual 374, 3) := by decide +kernel
theorem dX5_grownMark_42 : decode cX5_grownMark 42 = .ok (.iconst 2, 1) := by decide +kernel
theorem dX5_grownMark_43 : decode cX5_grownMark 43 = .ok (.aload_n 0, 1) := by decide +kernel
theorem dX5_grownMark_44 : decode cX5_grownMark 44 = .ok (.iload_n 1, 1) := by decide +kernel
theorem dX5_grownMark_45 : decode cX5_grownMark 45 = .ok (.invokevirtual 386, 3) := by decide +kernel
theorem dX5_grownMark_48 : decode cX5_grownMark 48 = .ok (.imul, 1) := by decide +kernel
theorem dX5_grownMark_49 : decode cX5_grownMark 49 = .ok (.ireturn, 1) := by decide +kernel
theorem dX5_grownMark_50 : decode cX5_grownMark 50 = .ok (.aload_n 0, 1) := by decide +kernel
theorem dX5_grownMark_51 : decode cX5_grownMark 51 = .ok (.bipush 22, 2) := by decide +kernel
theorem dX5_grownMark_53 : decode cX5_grownMark 53 = .ok (.invokevirtual 374, 3) := by decide +kernel
theorem dX5_grownMark_56 : decode cX5_grownMark 56 = .ok (.aload_n 0, 1) := by decide +kernel
theorem dX5_grownMark_57 : decode cX5_grownMark 57 = .ok (.iload_n 1, 1) := by decide +kernel
theorem dX5_grownMark_58 : decode cX5_grownMark 58 = .ok (.invokevirtual 386, 3) := by decide +kernel
theorem dX5_grownMark_61 : decode cX5_grownMark 61 = .ok (.sipush 1000, 3) := by decide +kernel
theorem dX5_grownMark_64 : decode cX5_grownMark 64 = .ok (.isub, 1) := by decide +kernel
theorem dX5_grownMark_65 : decode cX5_grownMark 65 = .ok (.ireturn, 1) := by decide +kernel
theorem dX5_grownMark_66 : decode cX5_grownMark 66 = .ok (.aload_n 0, 1) := by decide +kernel
theorem dX5_grownMark_67 : decode cX5_grownMark 67 = .ok (.iload_n 1, 1) := by decide +kernel
theorem dX5_grownMark_68 : decode cX5_grownMark 68 = .ok (.invokevirtual 386, 3) := by decide +kernel
theorem dX5_grownMark_71 : decode cX5_grownMark 71 = .ok (.ireturn, 1) := by decide +kernel
theorem dX5_markOfGrown_0 : decode cX5_markOfGrown 0 = .ok (.aload_n 0, 1) := by decide +kernel
theorem dX5_markOfGrown_1 : decode cX5_markOfGrown 1 = .ok (.bipush 21, 2) := by decide +kernel
theorem dX5_markOfGrown_3 : decode cX5_markOfGrown 3 = .ok (.invokevirtual 374, 3) := by decide +kernel
theorem dX5_markOfGrown_6 : decode cX5_markOfGrown 6 = .ok (.aload_n 0, 1) := by decide +kernel
theorem dX5_markOfGrown_7 : decode cX5_markOfGrown 7 = .ok (.iload_n 1, 1) := by decide +kernel
theorem dX5_markOfGrown_8 : decode cX5_markOfGrown 8 = .ok (.invokevirtual 389, 3) := by decide +kernel
theorem dX5_markOfGrown_11 : decode cX5_markOfGrown 11 = .ok (.aload_n 0, 1) := by decide +kernel
theorem dX5_markOfGrown_12 : decode cX5_markOfGrown 12 = .ok (.getfield 33, 3) := by decide +kernel
theorem dX5_markOfGrown_15 : decode cX5_markOfGrown 15 = .ok (.getfield 199, 3) := by decide +kernel
theorem dX5_markOfGrown_18 : decode cX5_markOfGrown 18 = .ok (.iload_n 1, 1) := by decide +kernel
theorem dX5_markOfGrown_19 : decode cX5_markOfGrown 19 = .ok (.iaload, 1) := by decide +kernel
theorem dX5_markOfGrown_20 : decode cX5_markOfGrown 20 = .ok (.iadd, 1) := by decide +kernel
theorem dX5_markOfGrown_21 : decode cX5_markOfGrown 21 = .ok (.ireturn, 1) := by decide +kernel
theorem dX5_childMark_0 : decode cX5_childMark 0 = .ok (.aload_n 0, 1) := by decide +kernel
theorem dX5_childMark_1 : decode cX5_childMark 1 = .ok (.bipush 23, 2) := by decide +kernel
theorem dX5_childMark_3 : decode cX5_childMark 3 = .ok (.invokevirtual 374, 3) := by decide +kernel
theorem dX5_childMark_6 : decode cX5_childMark 6 = .ok (.aload_n 0, 1) := by decide +kernel
theorem dX5_childMark_7 : decode cX5_childMark 7 = .ok (.iload_n 1, 1) := by decide +kernel
theorem dX5_childMark_8 : decode cX5_childMark 8 = .ok (.invokevirtual 389, 3) := by decide +kernel
theorem dX5_childMark_11 : decode cX5_childMark 11 = .ok (.istore_n 2, 1) := by decide +kernel
theorem dX5_childMark_12 : decode cX5_childMark 12 = .ok (.iload_n 2, 1) := by decide +kernel
theorem dX5_childMark_13 : decode cX5_childMark 13 = .ok (.aload_n 0, 1) := by decide +kernel
theorem dX5_childMark_14 : decode cX5_childMark 14 = .ok (.iload_n 1, 1) := by decide +kernel
theorem dX5_childMark_15 : decode cX5_childMark 15 = .ok (.invokevirtual 300, 3) := by decide +kernel
theorem dX5_childMark_18 : decode cX5_childMark 18 = .ok (.isub, 1) := by decide +kernel
theorem dX5_childMark_19 : decode cX5_childMark 19 = .ok (.ireturn, 1) := by decide +kernel
theorem dX5_lentMark_0 : decode cX5_lentMark 0 = .ok (.aload_n 0, 1) := by decide +kernel
theorem dX5_lentMark_1 : decode cX5_lentMark 1 = .ok (.bipush 20, 2) := by decide +kernel
theorem dX5_lentMark_3 : decode cX5_lentMark 3 = .ok (.invokevirtual 374, 3) := by decide +kernel
theorem dX5_lentMark_6 : decode cX5_lentMark 6 = .ok (.iload_n 1, 1) := by decide +kernel
theorem dX5_lentMark_7 : decode cX5_lentMark 7 = .ok (.ireturn, 1) := by decide +kernel
theorem dX6_init_0 : decode cX6_init 0 = .ok (.aload_n 0, 1) := by decide +kernel
theorem dX6_init_1 : decode cX6_init 1 = .ok (.invokespecial 1, 3) := by decide +kernel
theorem dX6_init_4 : decode cX6_init 4 = .ok (.aload_n 0, 1) := by decide +kernel
theorem dX6_init_5 : decode cX6_init 5 = .ok (.bipush 8, 2) := by decide +kernel
theorem dX6_init_7 : decode cX6_init 7 = .ok (.newarray .int, 2) := by decide +kernel
theorem dX6_init_9 : decode cX6_init 9 = .ok (.dup, 1) := by decide +kernel
theorem dX6_init_10 : decode cX6_init 10 = .ok (.iconst 0, 1) := by decide +kernel
theorem dX6_init_11 : decode cX6_init 11 = .ok (.iconst (-1), 1) := by decide +kernel
theorem dX6_init_12 : decode cX6_init 12 = .ok (.iastore, 1) := by decide +kernel
theorem dX6_init_13 : decode cX6_init 13 = .ok (.dup, 1) := by decide +kernel
theorem dX6_init_14 : decode cX6_init 14 = .ok (.iconst 1, 1) := by decide +kernel
theorem dX6_init_15 : decode cX6_init 15 = .ok (.iconst (-1), 1) := by decide +kernel
theorem dX6_init_16 : decode cX6_init 16 = .ok (.iastore, 1) := by decide +kernel
theorem dX6_init_17 : decode cX6_init 17 = .ok (.dup, 1) := by decide +kernel
theorem dX6_init_18 : decode cX6_init 18 = .ok (.iconst 2, 1) := by decide +kernel
theorem dX6_init_19 : decode cX6_init 19 = .ok (.iconst (-1), 1) := by decide +kernel
theorem dX6_init_20 : decode cX6_init 20 = .ok (.iastore, 1) := by decide +kernel
theorem dX6_init_21 : decode cX6_init 21 = .ok (.dup, 1) := by decide +kernel
theorem dX6_init_22 : decode cX6_init 22 = .ok (.iconst 3, 1) := by decide +kernel
theorem dX6_init_23 : decode cX6_init 23 = .ok (.iconst (-1), 1) := by decide +kernel
theorem dX6_init_24 : decode cX6_init 24 = .ok (.iastore, 1) := by decide +kernel
theorem dX6_init_25 : decode cX6_init 25 = .ok (.dup, 1) := by decide +kernel
theorem dX6_init_26 : decode cX6_init 26 = .ok (.iconst 4, 1) := by decide +kernel
theorem dX6_init_27 : decode cX6_init 27 = .ok (.iconst (-1), 1) := by decide +kernel
theorem dX6_init_28 : decode cX6_init 28 = .ok (.iastore, 1) := by decide +kernel
theorem dX6_init_29 : decode cX6_init 29 = .ok (.dup, 1) := by decide +kernel
theorem dX6_init_30 : decode cX6_init 30 = .ok (.iconst 5, 1) := by decide +kernel
theorem dX6_init_31 : decode cX6_init 31 = .ok (.iconst (-1), 1) := by decide +kernel
theorem dX6_init_32 : decode cX6_init 32 = .ok (.iastore, 1) := by decide +kernel
theorem dX6_init_33 : decode cX6_init 33 = .ok (.dup, 1) := by decide +kernel
theorem dX6_init_34 : decode cX6_init 34 = .ok (.bipush 6, 2) := by decide +kernel
theorem dX6_init_36 : decode cX6_init 36 = .ok (.iconst (-1), 1) := by decide +kernel
theorem dX6_init_37 : decode cX6_init 37 = .ok (.iastore, 1) := by decide +kernel
theorem dX6_init_38 : decode cX6_init 38 = .ok (.dup, 1) := by decide +kernel
theorem dX6_init_39 : decode cX6_init 39 = .ok (.bipush 7, 2) := by decide +kernel
theorem dX6_init_41 : decode cX6_init 41 = .ok (.iconst (-1), 1) := by decide +kernel
theorem dX6_init_42 : decode cX6_init 42 = .ok (.iastore, 1) := by decide +kernel
theorem dX6_init_43 : decode cX6_init 43 = .ok (.putfield 7, 3) := by decide +kernel
theorem dX6_init_46 : decode cX6_init 46 = .ok (.aload_n 0, 1) := by decide +kernel
theorem dX6_init_47 : decode cX6_init 47 = .ok (.bipush 8, 2) := by decide +kernel
theorem dX6_init_49 : decode cX6_init 49 = .ok (.newarray .int, 2) := by decide +kernel
theorem dX6_init_51 : decode cX6_init 51 = .ok (.putfield 13, 3) := by decide +kernel
theorem dX6_init_54 : decode cX6_init 54 = .ok (.aload_n 0, 1) := by decide +kernel
theorem dX6_init_55 : decode cX6_init 55 = .ok (.sipush 320, 3) := by decide +kernel
theorem dX6_init_58 : decode cX6_init 58 = .ok (.newarray .int, 2) := by decide +kernel
theorem dX6_init_60 : decode cX6_init 60 = .ok (.putfield 16, 3) := by decide +kernel
theorem dX6_init_63 : decode cX6_init 63 = .ok (.aload_n 0, 1) := by decide +kernel
theorem dX6_init_64 : decode cX6_init 64 = .ok (.bipush 64, 2) := by decide +kernel
theorem dX6_init_66 : decode cX6_init 66 = .ok (.newarray .int, 2) := by decide +kernel
theorem dX6_init_68 : decode cX6_init 68 = .ok (.putfield 19, 3) := by decide +kernel
theorem dX6_init_71 : decode cX6_init 71 = .ok (.aload_n 0, 1) := by decide +kernel
theorem dX6_init_72 : decode cX6_init 72 = .ok (.bipush 64, 2) := by decide +kernel
theorem dX6_init_74 : decode cX6_init 74 = .ok (.newarray .int, 2) := by decide +kernel
theorem dX6_init_76 : decode cX6_init 76 = .ok (.putfield 22, 3) := by decide +kernel
theorem dX6_init_79 : decode cX6_init 79 = .ok (.aload_n 0, 1) := by decide +kernel
theorem dX6_init_80 : decode cX6_init 80 = .ok (.bipush 64, 2) := by decide +kernel
theorem dX6_init_82 : decode cX6_init 82 = .ok (.newarray .int, 2) := by decide +kernel
theorem dX6_init_84 : decode cX6_init 84 = .ok (.putfield 25, 3) := by decide +kernel
theorem dX6_init_87 : decode cX6_init 87 = .ok (.aload_n 0, 1) := by decide +kernel
theorem dX6_init_88 : decode cX6_init 88 = .ok (.sipush 1536, 3) := by decide +kernel
theorem dX6_init_91 : decode cX6_init 91 = .ok (.newarray .int, 2) := by decide +kernel
theorem dX6_init_93 : decode cX6_init 93 = .ok (.putfield 28, 3) := by decide +kernel
theorem dX6_init_96 : decode cX6_init 96 = .ok (.aload_n 0, 1) := by decide +kernel
theorem dX6_init_97 : decode cX6_init 97 = .ok (.bipush 120, 2) := by decide +kernel
theorem dX6_init_99 : decode cX6_init 99 = .ok (.newarray .int, 2) := by decide +kernel
theorem dX6_init_101 : decode cX6_init 101 = .ok (.putfield 31, 3) := by decide +kernel
theorem dX6_init_104 : decode cX6_init 104 = .ok (.aload_n 0, 1) := by decide +kernel
theorem dX6_init_105 : decode cX6_init 105 = .ok (.bipush 36, 2) := by decide +kernel
theorem dX6_init_107 : decode cX6_init 107 = .ok (.newarray .int, 2) := by decide +kernel
theorem dX6_init_109 : decode cX6_init 109 = .ok (.putfield 34, 3) := by decide +kernel
theorem dX6_init_112 : decode cX6_init 112 = .ok (.aload_n 0, 1) := by decide +kernel
theorem dX6_init_113 : decode cX6_init 113 = .ok (.bipush 6, 2) := by decide +kernel
theorem dX6_init_115 : decode cX6_init 115 = .ok (.newarray .int, 2) := by decide +kernel
theorem dX6_init_117 : decode cX6_init 117 = .ok (.putfield 37, 3) := by decide +kernel
theorem dX6_init_120 : decode cX6_init 120 = .ok (.aload_n 0, 1) := by decide +kernel
theorem dX6_init_121 : decode cX6_init 121 = .ok (.bipush 101, 2) := by decide +kernel
theorem dX6_init_123 : decode cX6_init 123 = .ok (.newarray .long, 2) := by decide +kernel
theorem dX6_init_125 : decode cX6_init 125 = .ok (.putfield 40, 3) := by decide +kernel
theorem dX6_init_128 : decode cX6_init 128 = .ok (.aload_n 0, 1) := by decide +kernel
theorem dX6_init_129 : decode cX6_init 129 = .ok (.iconst 2, 1) := by decide +kernel
theorem dX6_init_130 : decode cX6_init 130 = .ok (.newarray .boolean, 2) := by decide +kernel
theorem dX6_init_132 : decode cX6_init 132 = .ok (.putfield 44, 3) := by decide +kernel
theorem dX6_init_135 : decode cX6_init 135 = .ok (.aload_n 0, 1) := by decide +kernel
theorem dX6_init_136 : decode cX6_init 136 = .ok (.sipush 128, 3) := by decide +kernel
theorem dX6_init_139 : decode cX6_init 139 = .ok (.newarray .int, 2) := by decide +kernel
theorem dX6_init_141 : decode cX6_init 141 = .ok (.putfield 48, 3) := by decide +kernel
theorem dX6_init_144 : decode cX6_init 144 = .ok (.aload_n 0, 1) := by decide +kernel
theorem dX6_init_145 : decode cX6_init 145 = .ok (.bipush 16, 2) := by decide +kernel
theorem dX6_init_147 : decode cX6_init 147 = .ok (.newarray .int, 2) := by decide +kernel
theorem dX6_init_149 : decode cX6_init 149 = .ok (.putfield 51, 3) := by decide +kernel
theorem dX6_init_152 : decode cX6_init 152 = .ok (.return_, 1) := by decide +kernel
theorem dX6_in_0 : decode cX6_in 0 = .ok (.lload_n 0, 1) := by decide +kernel
theorem dX6_in_1 : decode cX6_in 1 = .ok (.lload_n 2, 1) := by decide +kernel
theorem dX6_in_2 : decode cX6_in 2 = .ok (.lcmp, 1) := by decide +kernel
theorem dX6_in_3 : decode cX6_in 3 = .ok (.ifCond .lt 14, 3) := by decide +kernel
theorem dX6_in_6 : decode cX6_in 6 = .ok (.lload_n 0, 1) := by decide +kernel
theorem dX6_in_7 : decode cX6_in 7 = .ok (.lload 4, 2) := by decide +kernel
theorem dX6_in_9 : decode cX6_in 9 = .ok (.lcmp, 1) := by decide +kernel
theorem dX6_in_10 : decode cX6_in 10 = .ok (.ifCond .gt 7, 3) := by decide +kernel
theorem dX6_in_13 : decode cX6_in 13 = .ok (.iconst 1, 1) := by decide +kernel
theorem dX6_in_14 : decode cX6_in 14 = .ok (.goto 4, 3) := by decide +kernel
theorem dX6_in_17 : decode cX6_in 17 = .ok (.iconst 0, 1) := by decide +kernel
theorem dX6_in_18 : decode cX6_in 18 = .ok (.ireturn, 1) := by decide +kernel
theorem dX6_finding_0 : decode cX6_finding 0 = .ok (.aload_n 0, 1) := by decide +kernel
theorem dX6_finding_1 : decode cX6_finding 1 = .ok (.iload_n 1, 1) := by decide +kernel
theorem dX6_finding_2 : decode cX6_finding 2 = .ok (.putfield 58, 3) := by decide +kernel
theorem dX6_finding_5 : decode cX6_finding 5 = .ok (.ldc 61, 2) := by decide +kernel
theorem dX6_finding_7 : decode cX6_finding 7 = .ok (.iload_n 1, 1) := by decide +kernel
theorem dX6_finding_8 : decode cX6_finding 8 = .ok (.isub, 1) := by decide +kernel
theorem dX6_finding_9 : decode cX6_finding 9 = .ok (.ireturn, 1) := by decide +kernel
theorem dX6_isRow_0 : decode cX6_isRow 0 = .ok (.iload_n 0, 1) := by decide +kernel
theorem dX6_isRow_1 : decode cX6_isRow 1 = .ok (.i2l, 1) := by decide +kernel
theorem dX6_isRow_2 : decode cX6_isRow 2 = .ok (.lconst 0, 1) := by decide +kernel
theorem dX6_isRow_3 : decode cX6_isRow 3 = .ok (.ldc2_w 62, 3) := by decide +kernel
theorem dX6_isRow_6 : decode cX6_isRow 6 = .ok (.invokestatic 64, 3) := by decide +kernel
theorem dX6_isRow_9 : decode cX6_isRow 9 = .ok (.ireturn, 1) := by decide +kernel
theorem dX6_row_0 : decode cX6_row 0 = .ok (.aload_n 0, 1) := by decide +kernel
theorem dX6_row_1 : decode cX6_row 1 = .ok (.iconst 0, 1) := by decide +kernel
theorem dX6_row_2 : decode cX6_row 2 = .ok (.putfield 54, 3) := by decide +kernel
theorem dX6_row_5 : decode cX6_row 5 = .ok (.iload_n 1, 1) := by decide +kernel
theorem dX6_row_6 : decode cX6_row 6 = .ok (.invokestatic 68, 3) := by decide +kernel
theorem dX6_row_9 : decode cX6_row 9 = .ok (.ifCond .eq 21, 3) := by decide +kernel
theorem dX6_row_12 : decode cX6_row 12 = .ok (.iload_n 2, 1) := by decide +kernel
theorem dX6_row_13 : decode cX6_row 13 = .ok (.i2l, 1) := by decide +kernel
theorem dX6_row_14 : decode cX6_row 14 = .ok (.lconst 0, 1) := by decide +kernel
theorem dX6_row_15 : decode cX6_row 15 = .ok (.ldc2_w 72, 3) := by decide +kernel
theorem dX6_row_18 : decode cX6_row 18 = .ok (.invokestatic 64, 3) := by decide +kernel
theorem dX6_row_21 : decode cX6_row 21 = .ok (.ifCond .eq 9, 3) := by decide +kernel
theorem dX6_row_24 : decode cX6_row 24 = .ok (.iload_n 3, 1) := by decide +kernel
theorem dX6_row_25 : decode cX6_row 25 = .ok (.bipush 40, 2) := by decide +kernel
theorem dX6_row_27 : decode cX6_row 27 = .ok (.if_icmp .le 6, 3) := by decide +kernel
theorem dX6_row_30 : decode cX6_row 30 = .ok (.ldc 74, 2) := by decide +kernel
theorem dX6_row_32 : decode cX6_row 32 = .ok (.ireturn, 1) := by decide +kernel
theorem dX6_row_33 : decode cX6_row 33 = .ok (.aload_n 0, 1) := by decide +kernel
