theorem dX0_init_0 : decode cX0_init 0 = .ok (.aload_n 0, 1) := by decide +kernel
theorem dX0_init_1 : decode cX0_init 1 = .ok (.invokespecial 3, 3) := by decide +kernel
theorem dX0_init_4 : decode cX0_init 4 = .ok (.aload_n 0, 1) := by decide +kernel
theorem dX0_init_5 : decode cX0_init 5 = .ok (.bipush 6, 2) := by decide +kernel
theorem dX0_init_7 : decode cX0_init 7 = .ok (.newarray .int, 2) := by decide +kernel
theorem dX0_init_9 : decode cX0_init 9 = .ok (.putfield 9, 3) := by decide +kernel
theorem dX0_init_12 : decode cX0_init 12 = .ok (.aload_n 0, 1) := by decide +kernel
theorem dX0_init_13 : decode cX0_init 13 = .ok (.bipush 6, 2) := by decide +kernel
theorem dX0_init_15 : decode cX0_init 15 = .ok (.newarray .int, 2) := by decide +kernel
theorem dX0_init_17 : decode cX0_init 17 = .ok (.putfield 15, 3) := by decide +kernel
theorem dX0_init_20 : decode cX0_init 20 = .ok (.aload_n 0, 1) := by decide +kernel
theorem dX0_init_21 : decode cX0_init 21 = .ok (.bipush 6, 2) := by decide +kernel
theorem dX0_init_23 : decode cX0_init 23 = .ok (.newarray .int, 2) := by decide +kernel
theorem dX0_init_25 : decode cX0_init 25 = .ok (.putfield 18, 3) := by decide +kernel
theorem dX0_init_28 : decode cX0_init 28 = .ok (.aload_n 0, 1) := by decide +kernel
theorem dX0_init_29 : decode cX0_init 29 = .ok (.bipush 6, 2) := by decide +kernel
theorem dX0_init_31 : decode cX0_init 31 = .ok (.newarray .int, 2) := by decide +kernel
theorem dX0_init_33 : decode cX0_init 33 = .ok (.putfield 21, 3) := by decide +kernel
theorem dX0_init_36 : decode cX0_init 36 = .ok (.aload_n 0, 1) := by decide +kernel
theorem dX0_init_37 : decode cX0_init 37 = .ok (.bipush 6, 2) := by decide +kernel
theorem dX0_init_39 : decode cX0_init 39 = .ok (.newarray .int, 2) := by decide +kernel
theorem dX0_init_41 : decode cX0_init 41 = .ok (.putfield 24, 3) := by decide +kernel
theorem dX0_init_44 : decode cX0_init 44 = .ok (.return_, 1) := by decide +kernel
theorem dX0_take_0 : decode cX0_take 0 = .ok (.aload_n 0, 1) := by decide +kernel
theorem dX0_take_1 : decode cX0_take 1 = .ok (.aload_n 1, 1) := by decide +kernel
theorem dX0_take_2 : decode cX0_take 2 = .ok (.getfield 27, 3) := by decide +kernel
theorem dX0_take_5 : decode cX0_take 5 = .ok (.putfield 27, 3) := by decide +kernel
theorem dX0_take_8 : decode cX0_take 8 = .ok (.aload_n 0, 1) := by decide +kernel
theorem dX0_take_9 : decode cX0_take 9 = .ok (.aload_n 1, 1) := by decide +kernel
theorem dX0_take_10 : decode cX0_take 10 = .ok (.getfield 31, 3) := by decide +kernel
theorem dX0_take_13 : decode cX0_take 13 = .ok (.putfield 31, 3) := by decide +kernel
theorem dX0_take_16 : decode cX0_take 16 = .ok (.aload_n 0, 1) := by decide +kernel
theorem dX0_take_17 : decode cX0_take 17 = .ok (.aload_n 1, 1) := by decide +kernel
theorem dX0_take_18 : decode cX0_take 18 = .ok (.getfield 34, 3) := by decide +kernel
theorem dX0_take_21 : decode cX0_take 21 = .ok (.putfield 34, 3) := by decide +kernel
theorem dX0_take_24 : decode cX0_take 24 = .ok (.aload_n 0, 1) := by decide +kernel
theorem dX0_take_25 : decode cX0_take 25 = .ok (.aload_n 1, 1) := by decide +kernel
theorem dX0_take_26 : decode cX0_take 26 = .ok (.getfield 37, 3) := by decide +kernel
theorem dX0_take_29 : decode cX0_take 29 = .ok (.putfield 37, 3) := by decide +kernel
theorem dX0_take_32 : decode cX0_take 32 = .ok (.aload_n 0, 1) := by decide +kernel
theorem dX0_take_33 : decode cX0_take 33 = .ok (.aload_n 1, 1) := by decide +kernel
theorem dX0_take_34 : decode cX0_take 34 = .ok (.getfield 40, 3) := by decide +kernel
theorem dX0_take_37 : decode cX0_take 37 = .ok (.putfield 40, 3) := by decide +kernel
theorem dX0_take_40 : decode cX0_take 40 = .ok (.aload_n 0, 1) := by decide +kernel
theorem dX0_take_41 : decode cX0_take 41 = .ok (.aload_n 1, 1) := by decide +kernel
theorem dX0_take_42 : decode cX0_take 42 = .ok (.getfield 43, 3) := by decide +kernel
theorem dX0_take_45 : decode cX0_take 45 = .ok (.putfield 43, 3) := by decide +kernel
theorem dX0_take_48 : decode cX0_take 48 = .ok (.aload_n 1, 1) := by decide +kernel
theorem dX0_take_49 : decode cX0_take 49 = .ok (.getfield 9, 3) := by decide +kernel
theorem dX0_take_52 : decode cX0_take 52 = .ok (.iconst 0, 1) := by decide +kernel
theorem dX0_take_53 : decode cX0_take 53 = .ok (.aload_n 0, 1) := by decide +kernel
theorem dX0_take_54 : decode cX0_take 54 = .ok (.getfield 9, 3) := by decide +kernel
theorem dX0_take_57 : decode cX0_take 57 = .ok (.iconst 0, 1) := by decide +kernel
theorem dX0_take_58 : decode cX0_take 58 = .ok (.bipush 6, 2) := by decide +kernel
theorem dX0_take_60 : decode cX0_take 60 = .ok (.invokestatic 46, 3) := by decide +kernel
theorem dX0_take_63 : decode cX0_take 63 = .ok (.aload_n 1, 1) := by decide +kernel
theorem dX0_take_64 : decode cX0_take 64 = .ok (.getfield 15, 3) := by decide +kernel
theorem dX0_take_67 : decode cX0_take 67 = .ok (.iconst 0, 1) := by decide +kernel
theorem dX0_take_68 : decode cX0_take 68 = .ok (.aload_n 0, 1) := by decide +kernel
theorem dX0_take_69 : decode cX0_take 69 = .ok (.getfield 15, 3) := by decide +kernel
theorem dX0_take_72 : decode cX0_take 72 = .ok (.iconst 0, 1) := by decide +kernel
theorem dX0_take_73 : decode cX0_take 73 = .ok (.bipush 6, 2) := by decide +kernel
theorem dX0_take_75 : decode cX0_take 75 = .ok (.invokestatic 46, 3) := by decide +kernel
theorem dX0_take_78 : decode cX0_take 78 = .ok (.aload_n 1, 1) := by decide +kernel
theorem dX0_take_79 : decode cX0_take 79 = .ok (.getfield 18, 3) := by decide +kernel
theorem dX0_take_82 : decode cX0_take 82 = .ok (.iconst 0, 1) := by decide +kernel
theorem dX0_take_83 : decode cX0_take 83 = .ok (.aload_n 0, 1) := by decide +kernel
theorem dX0_take_84 : decode cX0_take 84 = .ok (.getfield 18, 3) := by decide +kernel
theorem dX0_take_87 : decode cX0_take 87 = .ok (.iconst 0, 1) := by decide +kernel
theorem dX0_take_88 : decode cX0_take 88 = .ok (.bipush 6, 2) := by decide +kernel
theorem dX0_take_90 : decode cX0_take 90 = .ok (.invokestatic 46, 3) := by decide +kernel
theorem dX0_take_93 : decode cX0_take 93 = .ok (.aload_n 1, 1) := by decide +kernel
theorem dX0_take_94 : decode cX0_take 94 = .ok (.getfield 21, 3) := by decide +kernel
theorem dX0_take_97 : decode cX0_take 97 = .ok (.iconst 0, 1) := by decide +kernel
theorem dX0_take_98 : decode cX0_take 98 = .ok (.aload_n 0, 1) := by decide +kernel
theorem dX0_take_99 : decode cX0_take 99 = .ok (.getfield 21, 3) := by decide +kernel
theorem dX0_take_102 : decode cX0_take 102 = .ok (.iconst 0, 1) := by decide +kernel
theorem dX0_take_103 : decode cX0_take 103 = .ok (.bipush 6, 2) := by decide +kernel
theorem dX0_take_105 : decode cX0_take 105 = .ok (.invokestatic 46, 3) := by decide +kernel
theorem dX0_take_108 : decode cX0_take 108 = .ok (.return_, 1) := by decide +kernel
theorem dX0_become_0 : decode cX0_become 0 = .ok (.aload_n 0, 1) := by decide +kernel
theorem dX0_become_1 : decode cX0_become 1 = .ok (.getfield 9, 3) := by decide +kernel
theorem dX0_become_4 : decode cX0_become 4 = .ok (.iload_n 1, 1) := by decide +kernel
theorem dX0_become_5 : decode cX0_become 5 = .ok (.iload_n 2, 1) := by decide +kernel
theorem dX0_become_6 : decode cX0_become 6 = .ok (.iastore, 1) := by decide +kernel
theorem dX0_become_7 : decode cX0_become 7 = .ok (.iload_n 2, 1) := by decide +kernel
theorem dX0_become_8 : decode cX0_become 8 = .ok (.iconst 2, 1) := by decide +kernel
theorem dX0_become_9 : decode cX0_become 9 = .ok (.if_icmp .ne 10, 3) := by decide +kernel
theorem dX0_become_12 : decode cX0_become 12 = .ok (.aload_n 0, 1) := by decide +kernel
theorem dX0_become_13 : decode cX0_become 13 = .ok (.getfield 21, 3) := by decide +kernel
theorem dX0_become_16 : decode cX0_become 16 = .ok (.iload_n 1, 1) := by decide +kernel
theorem dX0_become_17 : decode cX0_become 17 = .ok (.iconst 0, 1) := by decide +kernel
theorem dX0_become_18 : decode cX0_become 18 = .ok (.iastore, 1) := by decide +kernel
theorem dX0_become_19 : decode cX0_become 19 = .ok (.return_, 1) := by decide +kernel
theorem dX0_wishes_0 : decode cX0_wishes 0 = .ok (.aload_n 0, 1) := by decide +kernel
theorem dX0_wishes_1 : decode cX0_wishes 1 = .ok (.getfield 27, 3) := by decide +kernel
theorem dX0_wishes_4 : decode cX0_wishes 4 = .ok (.bipush 6, 2) := by decide +kernel
theorem dX0_wishes_6 : decode cX0_wishes 6 = .ok (.iadd, 1) := by decide +kernel
theorem dX0_wishes_7 : decode cX0_wishes 7 = .ok (.aload_n 1, 1) := by decide +kernel
theorem dX0_wishes_8 : decode cX0_wishes 8 = .ok (.getfield 52, 3) := by decide +kernel
theorem dX0_wishes_11 : decode cX0_wishes 11 = .ok (.iload_n 2, 1) := by decide +kernel
theorem dX0_wishes_12 : decode cX0_wishes 12 = .ok (.iaload, 1) := by decide +kernel
theorem dX0_wishes_13 : decode cX0_wishes 13 = .ok (.isub, 1) := by decide +kernel
theorem dX0_wishes_14 : decode cX0_wishes 14 = .ok (.bipush 6, 2) := by decide +kernel
theorem dX0_wishes_16 : decode cX0_wishes 16 = .ok (.irem, 1) := by decide +kernel
theorem dX0_wishes_17 : decode cX0_wishes 17 = .ok (.istore_n 3, 1) := by decide +kernel
theorem dX0_wishes_18 : decode cX0_wishes 18 = .ok (.iload_n 3, 1) := by decide +kernel
theorem dX0_wishes_19 : decode cX0_wishes 19 = .ok (.aload_n 1, 1) := by decide +kernel
theorem dX0_wishes_20 : decode cX0_wishes 20 = .ok (.getfield 57, 3) := by decide +kernel
theorem dX0_wishes_23 : decode cX0_wishes 23 = .ok (.iload_n 2, 1) := by decide +kernel
theorem dX0_wishes_24 : decode cX0_wishes 24 = .ok (.iaload, 1) := by decide +kernel
theorem dX0_wishes_25 : decode cX0_wishes 25 = .ok (.if_icmp .ge 18, 3) := by decide +kernel
theorem dX0_wishes_28 : decode cX0_wishes 28 = .ok (.aload_n 0, 1) := by decide +kernel
theorem dX0_wishes_29 : decode cX0_wishes 29 = .ok (.getfield 43, 3) := by decide +kernel
theorem dX0_wishes_32 : decode cX0_wishes 32 = .ok (.iload_n 2, 1) := by decide +kernel
theorem dX0_wishes_33 : decode cX0_wishes 33 = .ok (.invokestatic 60, 3) := by decide +kernel
theorem dX0_wishes_36 : decode cX0_wishes 36 = .ok (.ifCond .ne 7, 3) := by decide +kernel
theorem dX0_wishes_39 : decode cX0_wishes 39 = .ok (.iconst 1, 1) := by decide +kernel
theorem dX0_wishes_40 : decode cX0_wishes 40 = .ok (.goto 4, 3) := by decide +kernel
theorem dX0_wishes_43 : decode cX0_wishes 43 = .ok (.iconst 0, 1) := by decide +kernel
theorem dX0_wishes_44 : decode cX0_wishes 44 = .ok (.ireturn, 1) := by decide +kernel
theorem dX0_wishing_0 : decode cX0_wishing 0 = .ok (.iconst 0, 1) := by decide +kernel
theorem dX0_wishing_1 : decode cX0_wishing 1 = .ok (.istore_n 2, 1) := by decide +kernel
theorem dX0_wishing_2 : decode cX0_wishing 2 = .ok (.iconst 0, 1) := by decide +kernel
theorem dX0_wishing_3 : decode cX0_wishing 3 = .ok (.istore_n 3, 1) := by decide +kernel
theorem dX0_wishing_4 : decode cX0_wishing 4 = .ok (.iload_n 3, 1) := by decide +kernel
theorem dX0_wishing_5 : decode cX0_wishing 5 = .ok (.aload_n 1, 1) := by decide +kernel
theorem dX0_wishing_6 : decode cX0_wishing 6 = .ok (.getfield 64, 3) := by decide +kernel
theorem dX0_wishing_9 : decode cX0_wishing 9 = .ok (.if_icmp .ge 24, 3) := by decide +kernel
theorem dX0_wishing_12 : decode cX0_wishing 12 = .ok (.aload_n 0, 1) := by decide +kernel
theorem dX0_wishing_13 : decode cX0_wishing 13 = .ok (.aload_n 1, 1) := by decide +kernel
theorem dX0_wishing_14 : decode cX0_wishing 14 = .ok (.iload_n 3, 1) := by decide +kernel
theorem dX0_wishing_15 : decode cX0_wishing 15 = .ok (.invokevirtual 67, 3) := by decide +kernel
theorem dX0_wishing_18 : decode cX0_wishing 18 = .ok (.ifCond .eq 9, 3) := by decide +kernel
theorem dX0_wishing_21 : decode cX0_wishing 21 = .ok (.iload_n 2, 1) := by decide +kernel
theorem dX0_wishing_22 : decode cX0_wishing 22 = .ok (.iconst 1, 1) := by decide +kernel
theorem dX0_wishing_23 : decode cX0_wishing 23 = .ok (.iload_n 3, 1) := by decide +kernel
theorem dX0_wishing_24 : decode cX0_wishing 24 = .ok (.ishl, 1) := by decide +kernel
theorem dX0_wishing_25 : decode cX0_wishing 25 = .ok (.ior, 1) := by decide +kernel
theorem dX0_wishing_26 : decode cX0_wishing 26 = .ok (.istore_n 2, 1) := by decide +kernel
theorem dX0_wishing_27 : decode cX0_wishing 27 = .ok (.iinc 3 1, 3) := by decide +kernel
theorem dX0_wishing_30 : decode cX0_wishing 30 = .ok (.goto (-26), 3) := by decide +kernel
theorem dX0_wishing_33 : decode cX0_wishing 33 = .ok (.iload_n 2, 1) := by decide +kernel
theorem dX0_wishing_34 : decode cX0_wishing 34 = .ok (.ireturn, 1) := by decide +kernel
theorem dX0_force_0 : decode cX0_force 0 = .ok (.iconst 0, 1) := by decide +kernel
theorem dX0_force_1 : decode cX0_force 1 = .ok (.aload_n 0, 1) := by decide +kernel
theorem dX0_force_2 : decode cX0_force 2 = .ok (.getfield 18, 3) := by decide +kernel
theorem dX0_force_5 : decode cX0_force 5 = .ok (.iload_n 2, 1) := by decide +kernel
theorem dX0_force_6 : decode cX0_force 6 = .ok (.iaload, 1) := by decide +kernel
theorem dX0_force_7 : decode cX0_force 7 = .ok (.aload_n 0, 1) := by decide +kernel
theorem dX0_force_8 : decode cX0_force 8 = .ok (.getfield 21, 3) := by decide +kernel
theorem dX0_force_11 : decode cX0_force 11 = .ok (.iload_n 2, 1) := by decide +kernel
theorem dX0_force_12 : decode cX0_force 12 = .ok (.iaload, 1) := by decide +kernel
theorem dX0_force_13 : decode cX0_force 13 = .ok (.isub, 1) := by decide +kernel
theorem dX0_force_14 : decode cX0_force 14 = .ok (.invokestatic 71, 3) := by decide +kernel
theorem dX0_force_17 : decode cX0_force 17 = .ok (.istore_n 3, 1) := by decide +kernel
theorem dX0_force_18 : decode cX0_force 18 = .ok (.iconst 0, 1) := by decide +kernel
theorem dX0_force_19 : decode cX0_force 19 = .ok (.aload_n 0, 1) := by decide +kernel
theorem dX0_force_20 : decode cX0_force 20 = .ok (.getfield 18, 3) := by decide +kernel
theorem dX0_force_23 : decode cX0_force 23 = .ok (.iload_n 2, 1) := by decide +kernel
theorem dX0_force_24 : decode cX0_force 24 = .ok (.iaload, 1) := by decide +kernel
theorem dX0_force_25 : decode cX0_force 25 = .ok (.aload_n 1, 1) := by decide +kernel
theorem dX0_force_26 : decode cX0_force 26 = .ok (.aload_n 1, 1) := by decide +kernel
theorem dX0_force_27 : decode cX0_force 27 = .ok (.getfield 76, 3) := by decide +kernel
theorem dX0_force_30 : decode cX0_force 30 = .ok (.iload_n 2, 1) := by decide +kernel
theorem dX0_force_31 : decode cX0_force 31 = .ok (.iaload, 1) := by decide +kernel
theorem dX0_force_32 : decode cX0_force 32 = .ok (.aload_n 0, 1) := by decide +kernel
theorem dX0_force_33 : decode cX0_force 33 = .ok (.getfield 15, 3) := by decide +kernel
theorem dX0_force_36 : decode cX0_force 36 = .ok (.iload_n 2, 1) := by decide +kernel
theorem dX0_force_37 : decode cX0_force 37 = .ok (.iaload, 1) := by decide +kernel
theorem dX0_force_38 : decode cX0_force 38 = .ok (.invokevirtual 79, 3) := by decide +kernel
theorem dX0_force_41 : decode cX0_force 41 = .ok (.isub, 1) := by decide +kernel
theorem dX0_force_42 : decode cX0_force 42 = .ok (.aload_n 0, 1) := by decide +kernel
theorem dX0_force_43 : decode cX0_force 43 = .ok (.getfield 21, 3) := by decide +kernel
theorem dX0_force_46 : decode cX0_force 46 = .ok (.iload_n 2, 1) := by decide +kernel
theorem dX0_force_47 : decode cX0_force 47 = .ok (.iaload, 1) := by decide +kernel
theorem dX0_force_48 : decode cX0_force 48 = .ok (.isub, 1) := by decide +kernel
theorem dX0_force_49 : decode cX0_force 49 = .ok (.invokestatic 71, 3) := by decide +kernel
theorem dX0_force_52 : decode cX0_force 52 = .ok (.istore 4, 2) := by decide +kernel
theorem dX0_force_54 : decode cX0_force 54 = .ok (.aload_n 0, 1) := by decide +kernel
theorem dX0_force_55 : decode cX0_force 55 = .ok (.getfield 9, 3) := by decide +kernel
theorem dX0_force_58 : decode cX0_force 58 = .ok (.iload_n 2, 1) := by decide +kernel
theorem dX0_force_59 : decode cX0_force 59 = .ok (.iaload, 1) := by decide +kernel
theorem dX0_force_60 : decode cX0_force 60 = .ok (.tableswitch 63 3 5 #[28, 48, 50], 28) := by decide +kernel
theorem dX0_force_88 : decode cX0_force 88 = .ok (.aload_n 0, 1) := by decide +kernel
theorem dX0_force_89 : decode cX0_force 89 = .ok (.getfield 27, 3) := by decide +kernel
theorem dX0_force_92 : decode cX0_force 92 = .ok (.bipush 6, 2) := by decide +kernel
theorem dX0_force_94 : decode cX0_force 94 = .ok (.irem, 1) := by decide +kernel
theorem dX0_force_95 : decode cX0_force 95 = .ok (.iconst 4, 1) := by decide +kernel
theorem dX0_force_96 : decode cX0_force 96 = .ok (.if_icmp .lt 10, 3) := by decide +kernel
theorem dX0_force_99 : decode cX0_force 99 = .ok (.iconst 2, 1) := by decide +kernel
theorem dX0_force_100 : decode cX0_force 100 = .ok (.iload 4, 2) := by decide +kernel
theorem dX0_force_102 : decode cX0_force 102 = .ok (.imul, 1) := by decide +kernel
theorem dX0_force_103 : decode cX0_force 103 = .ok (.goto 4, 3) := by decide +kernel
theorem dX0_force_106 : decode cX0_force 106 = .ok (.iconst 0, 1) := by decide +kernel
theorem dX0_force_107 : decode cX0_force 107 = .ok (.ireturn, 1) := by decide +kernel
theorem dX0_force_108 : decode cX0_force 108 = .ok (.iload_n 3, 1) := by decide +kernel
theorem dX0_force_109 : decode cX0_force 109 = .ok (.ireturn, 1) := by decide +kernel
theorem dX0_force_110 : decode cX0_force 110 = .ok (.iload_n 3, 1) := by decide +kernel
theorem dX0_force_111 : decode cX0_force 111 = .ok (.iconst 2, 1) := by decide +kernel
theorem dX0_force_112 : decode cX0_force 112 = .ok (.aload_n 1, 1) := by decide +kernel
theorem dX0_force_113 : decode cX0_force 113 = .ok (.getfield 57, 3) := by decide +kernel
theorem dX0_force_116 : decode cX0_force 116 = .ok (.iload_n 2, 1) := by decide +kernel
theorem dX0_force_117 : decode cX0_force 117 = .ok (.iaload, 1) := by decide +kernel
theorem dX0_force_118 : decode cX0_force 118 = .ok (.iconst 1, 1) := by decide +kernel
theorem dX0_force_119 : decode cX0_force 119 = .ok (.isub, 1) := by decide +kernel
theorem dX0_force_120 : decode cX0_force 120 = .ok (.imul, 1) := by decide +kernel
theorem dX0_force_121 : decode cX0_force 121 = .ok (.iadd, 1) := by decide +kernel
theorem dX0_force_122 : decode cX0_force 122 = .ok (.ireturn, 1) := by decide +kernel
theorem dX0_force_123 : decode cX0_force 123 = .ok (.iload 4, 2) := by decide +kernel
theorem dX0_force_125 : decode cX0_force 125 = .ok (.ireturn, 1) := by decide +kernel
theorem dX0_weigh_0 : decode cX0_weigh 0 = .ok (.iconst 0, 1) := by decide +kernel
theorem dX0_weigh_1 : decode cX0_weigh 1 = .ok (.istore_n 2, 1) := by decide +kernel
theorem dX0_weigh_2 : decode cX0_weigh 2 = .ok (.iload_n 2, 1) := by decide +kernel
theorem dX0_weigh_3 : decode cX0_weigh 3 = .ok (.aload_n 1, 1) := by decide +kernel
theorem dX0_weigh_4 : decode cX0_weigh 4 = .ok (.getfield 82, 3) := by decide +kernel
theorem dX0_weigh_7 : decode cX0_weigh 7 = .ok (.if_icmp .ge 27, 3) := by decide +kernel
theorem dX0_weigh_10 : decode cX0_weigh 10 = .ok (.aload_n 0, 1) := by decide +kernel
theorem dX0_weigh_11 : decode cX0_weigh 11 = .ok (.getfield 24, 3) := by decide +kernel
theorem dX0_weigh_14 : decode cX0_weigh 14 = .ok (.iload_n 2, 1) := by decide +kernel
theorem dX0_weigh_15 : decode cX0_weigh 15 = .ok (.bipush (-2), 2) := by decide +kernel
theorem dX0_weigh_17 : decode cX0_weigh 17 = .ok (.aload_n 1, 1) := by decide +kernel
theorem dX0_weigh_18 : decode cX0_weigh 18 = .ok (.aload_n 0, 1) := by decide +kernel
theorem dX0_weigh_19 : decode cX0_weigh 19 = .ok (.getfield 31, 3) := by decide +kernel
theorem dX0_weigh_22 : decode cX0_weigh 22 = .ok (.iload_n 2, 1) := by decide +kernel
theorem dX0_weigh_23 : decode cX0_weigh 23 = .ok (.invokevirtual 79, 3) := by decide +kernel
theorem dX0_weigh_26 : decode cX0_weigh 26 = .ok (.imul, 1) := by decide +kernel
theorem dX0_weigh_27 : decode cX0_weigh 27 = .ok (.iastore, 1) := by decide +kernel
theorem dX0_weigh_28 : decode cX0_weigh 28 = .ok (.iinc 2 1, 3) := by decide +kernel
theorem dX0_weigh_31 : decode cX0_weigh 31 = .ok (.goto (-29), 3) := by decide +kernel
theorem dX0_weigh_34 : decode cX0_weigh 34 = .ok (.aload_n 0, 1) := by decide +kernel
theorem dX0_weigh_35 : decode cX0_weigh 35 = .ok (.getfield 24, 3) := by decide +kernel
theorem dX0_weigh_38 : decode cX0_weigh 38 = .ok (.aload_n 0, 1) := by decide +kernel
theorem dX0_weigh_39 : decode cX0_weigh 39 = .ok (.getfield 31, 3) := by decide +kernel
theorem dX0_weigh_42 : decode cX0_weigh 42 = .ok (.dup2, 1) := by decide +kernel
theorem dX0_weigh_43 : decode cX0_weigh 43 = .ok (.iaload, 1) := by decide +kernel
theorem dX0_weigh_44 : decode cX0_weigh 44 = .ok (.aload_n 1, 1) := by decide +kernel
theorem dX0_weigh_45 : decode cX0_weigh 45 = .ok (.getfield 85, 3) := by decide +kernel
theorem dX0_weigh_48 : decode cX0_weigh 48 = .ok (.iadd, 1) := by decide +kernel
theorem dX0_weigh_49 : decode cX0_weigh 49 = .ok (.iastore, 1) := by decide +kernel
theorem dX0_weigh_50 : decode cX0_weigh 50 = .ok (.iconst 0, 1) := by decide +kernel
theorem dX0_weigh_51 : decode cX0_weigh 51 = .ok (.istore_n 2, 1) := by decide +kernel
theorem dX0_weigh_52 : decode cX0_weigh 52 = .ok (.iload_n 2, 1) := by decide +kernel
theorem dX0_weigh_53 : decode cX0_weigh 53 = .ok (.aload_n 1, 1) := by decide +kernel
theorem dX0_weigh_54 : decode cX0_weigh 54 = .ok (.getfield 64, 3) := by decide +kernel
theorem dX0_weigh_57 : decode cX0_weigh 57 = .ok (.if_icmp .ge 38, 3) := by decide +kernel
theorem dX0_weigh_60 : decode cX0_weigh 60 = .ok (.aload_n 0, 1) := by decide +kernel
theorem dX0_weigh_61 : decode cX0_weigh 61 = .ok (.aload_n 1, 1) := by decide +kernel
theorem dX0_weigh_62 : decode cX0_weigh 62 = .ok (.iload_n 2, 1) := by decide +kernel
theorem dX0_weigh_63 : decode cX0_weigh 63 = .ok (.invokevirtual 67, 3) := by decide +kernel
theorem dX0_weigh_66 : decode cX0_weigh 66 = .ok (.ifCond .eq 23, 3) := by decide +kernel
theorem dX0_weigh_69 : decode cX0_weigh 69 = .ok (.aload_n 0, 1) := by decide +kernel
theorem dX0_weigh_70 : decode cX0_weigh 70 = .ok (.getfield 24, 3) := by decide +kernel
theorem dX0_weigh_73 : decode cX0_weigh 73 = .ok (.aload_n 0, 1) := by decide +kernel
theorem dX0_weigh_74 : decode cX0_weigh 74 = .ok (.getfield 15, 3) := by decide +kernel
theorem dX0_weigh_77 : decode cX0_weigh 77 = .ok (.iload_n 2, 1) := by decide +kernel
theorem dX0_weigh_78 : decode cX0_weigh 78 = .ok (.iaload, 1) := by decide +kernel
theorem dX0_weigh_79 : decode cX0_weigh 79 = .ok (.dup2, 1) := by decide +kernel
theorem dX0_weigh_80 : decode cX0_weigh 80 = .ok (.iaload, 1) := by decide +kernel
theorem dX0_weigh_81 : decode cX0_weigh 81 = .ok (.aload_n 0, 1) := by decide +kernel
theorem dX0_weigh_82 : decode cX0_weigh 82 = .ok (.aload_n 1, 1) := by decide +kernel
theorem dX0_weigh_83 : decode cX0_weigh 83 = .ok (.iload_n 2, 1) := by decide +kernel
theorem dX0_weigh_84 : decode cX0_weigh 84 = .ok (.invokevirtual 88, 3) := by decide +kernel
theorem dX0_weigh_87 : decode cX0_weigh 87 = .ok (.iadd, 1) := by decide +kernel
theorem dX0_weigh_88 : decode cX0_weigh 88 = .ok (.iastore, 1) := by decide +kernel
theorem dX0_weigh_89 : decode cX0_weigh 89 = .ok (.iinc 2 1, 3) := by decide +kernel
theorem dX0_weigh_92 : decode cX0_weigh 92 = .ok (.goto (-40), 3) := by decide +kernel
theorem dX0_weigh_95 : decode cX0_weigh 95 = .ok (.return_, 1) := by decide +kernel
theorem dX0_decide_0 : decode cX0_decide 0 = .ok (.aload_n 0, 1) := by decide +kernel
theorem dX0_decide_1 : decode cX0_decide 1 = .ok (.getfield 31, 3) := by decide +kernel
theorem dX0_decide_4 : decode cX0_decide 4 = .ok (.istore_n 2, 1) := by decide +kernel
theorem dX0_decide_5 : decode cX0_decide 5 = .ok (.iconst 0, 1) := by decide +kernel
theorem dX0_decide_6 : decode cX0_decide 6 = .ok (.istore_n 3, 1) := by decide +kernel
theorem dX0_decide_7 : decode cX0_decide 7 = .ok (.iconst 0, 1) := by decide +kernel
theorem dX0_decide_8 : decode cX0_decide 8 = .ok (.istore 4, 2) := by decide +kernel
theorem dX0_decide_10 : decode cX0_decide 10 = .ok (.iload 4, 2) := by decide +kernel
theorem dX0_decide_12 : decode cX0_decide 12 = .ok (.aload_n 1, 1) := by decide +kernel
theorem dX0_decide_13 : decode cX0_decide 13 = .ok (.getfield 82, 3) := by decide +kernel
theorem dX0_decide_16 : decode cX0_decide 16 = .ok (.if_icmp .ge 57, 3) := by decide +kernel
theorem dX0_decide_19 : decode cX0_decide 19 = .ok (.aload_n 0, 1) := by decide +kernel
theorem dX0_decide_20 : decode cX0_decide 20 = .ok (.getfield 24, 3) := by decide +kernel
theorem dX0_decide_23 : decode cX0_decide 23 = .ok (.iload 4, 2) := by decide +kernel
theorem dX0_decide_25 : decode cX0_decide 25 = .ok (.iaload, 1) := by decide +kernel
theorem dX0_decide_26 : decode cX0_decide 26 = .ok (.aload_n 0, 1) := by decide +kernel
theorem dX0_decide_27 : decode cX0_decide 27 = .ok (.getfield 24, 3) := by decide +kernel
theorem dX0_decide_30 : decode cX0_decide 30 = .ok (.iload_n 2, 1) := by decide +kernel
theorem dX0_decide_31 : decode cX0_decide 31 = .ok (.iaload, 1) := by decide +kernel
theorem dX0_decide_32 : decode cX0_decide 32 = .ok (.if_icmp .le 11, 3) := by decide +kernel
theorem dX0_decide_35 : decode cX0_decide 35 = .ok (.iload 4, 2) := by decide +kernel
theorem dX0_decide_37 : decode cX0_decide 37 = .ok (.istore_n 2, 1) := by decide +kernel
theorem dX0_decide_38 : decode cX0_decide 38 = .ok (.iconst 0, 1) := by decide +kernel
theorem dX0_decide_39 : decode cX0_decide 39 = .ok (.istore_n 3, 1) := by decide +kernel
theorem dX0_decide_40 : decode cX0_decide 40 = .ok (.goto 27, 3) := by decide +kernel
theorem dX0_decide_43 : decode cX0_decide 43 = .ok (.iload 4, 2) := by decide +kernel
theorem dX0_decide_45 : decode cX0_decide 45 = .ok (.iload_n 2, 1) := by decide +kernel
theorem dX0_decide_46 : decode cX0_decide 46 = .ok (.if_icmp .eq 21, 3) := by decide +kernel
theorem dX0_decide_49 : decode cX0_decide 49 = .ok (.aload_n 0, 1) := by decide +kernel
theorem dX0_decide_50 : decode cX0_decide 50 = .ok (.getfield 24, 3) := by decide +kernel
theorem dX0_decide_53 : decode cX0_decide 53 = .ok (.iload 4, 2) := by decide +kernel
theorem dX0_decide_55 : decode cX0_decide 55 = .ok (.iaload, 1) := by decide +kernel
theorem dX0_decide_56 : decode cX0_decide 56 = .ok (.aload_n 0, 1) := by decide +kernel
theorem dX0_decide_57 : decode cX0_decide 57 = .ok (.getfield 24, 3) := by decide +kernel
theorem dX0_decide_60 : decode cX0_decide 60 = .ok (.iload_n 2, 1) := by decide +kernel
theorem dX0_decide_61 : decode cX0_decide 61 = .ok (.iaload, 1) := by decide +kernel
theorem dX0_decide_62 : decode cX0_decide 62 = .ok (.if_icmp .ne 5, 3) := by decide +kernel
theorem dX0_decide_65 : decode cX0_decide 65 = .ok (.iconst 1, 1) := by decide +kernel
theorem dX0_decide_66 : decode cX0_decide 66 = .ok (.istore_n 3, 1) := by decide +kernel
theorem dX0_decide_67 : decode cX0_decide 67 = .ok (.iinc 4 1, 3) := by decide +kernel
theorem dX0_decide_70 : decode cX0_decide 70 = .ok (.goto (-60), 3) := by decide +kernel
theorem dX0_decide_73 : decode cX0_decide 73 = .ok (.iload_n 3, 1) := by decide +kernel
theorem dX0_decide_74 : decode cX0_decide 74 = .ok (.ifCond .eq 15, 3) := by decide +kernel
theorem dX0_decide_77 : decode cX0_decide 77 = .ok (.iload_n 2, 1) := by decide +kernel
theorem dX0_decide_78 : decode cX0_decide 78 = .ok (.aload_n 0, 1) := by decide +kernel
theorem dX0_decide_79 : decode cX0_decide 79 = .ok (.getfield 31, 3) := by decide +kernel
theorem dX0_decide_82 : decode cX0_decide 82 = .ok (.if_icmp .eq 7, 3) := by decide +kernel
theorem dX0_decide_85 : decode cX0_decide 85 = .ok (.iconst (-1), 1) := by decide +kernel
theorem dX0_decide_86 : decode cX0_decide 86 = .ok (.goto 4, 3) := by decide +kernel
theorem dX0_decide_89 : decode cX0_decide 89 = .ok (.iload_n 2, 1) := by decide +kernel
theorem dX0_decide_90 : decode cX0_decide 90 = .ok (.ireturn, 1) := by decide +kernel
theorem dX0_goesTo_0 : decode cX0_goesTo 0 = .ok (.aload_n 0, 1) := by decide +kernel
theorem dX0_goesTo_1 : decode cX0_goesTo 1 = .ok (.aload_n 1, 1) := by decide +kernel
theorem dX0_goesTo_2 : decode cX0_goesTo 2 = .ok (.invokevirtual 92, 3) := by decide +kernel
theorem dX0_goesTo_5 : decode cX0_goesTo 5 = .ok (.istore_n 2, 1) := by decide +kernel
theorem dX0_goesTo_6 : decode cX0_goesTo 6 = .ok (.iload_n 2, 1) := by decide +kernel
theorem dX0_goesTo_7 : decode cX0_goesTo 7 = .ok (.iconst (-1), 1) := by decide +kernel
theorem dX0_goesTo_8 : decode cX0_goesTo 8 = .ok (.if_icmp .ne 10, 3) := by decide +kernel
theorem dX0_goesTo_11 : decode cX0_goesTo 11 = .ok (.aload_n 0, 1) := by decide +kernel
theorem dX0_goesTo_12 : decode cX0_goesTo 12 = .ok (.getfield 31, 3) := by decide +kernel
theorem dX0_goesTo_15 : decode cX0_goesTo 15 = .ok (.goto 4, 3) := by decide +kernel
theorem dX0_goesTo_18 : decode cX0_goesTo 18 = .ok (.iload_n 2, 1) := by decide +kernel
theorem dX0_goesTo_19 : decode cX0_goesTo 19 = .ok (.ireturn, 1) := by decide +kernel
theorem dX0_pass_0 : decode cX0_pass 0 = .ok (.aload_n 0, 1) := by decide +kernel
theorem dX0_pass_1 : decode cX0_pass 1 = .ok (.aload_n 1, 1) := by decide +kernel
theorem dX0_pass_2 : decode cX0_pass 2 = .ok (.invokevirtual 96, 3) := by decide +kernel
theorem dX0_pass_5 : decode cX0_pass 5 = .ok (.aload_n 0, 1) := by decide +kernel
theorem dX0_pass_6 : decode cX0_pass 6 = .ok (.aload_n 1, 1) := by decide +kernel
theorem dX0_pass_7 : decode cX0_pass 7 = .ok (.invokevirtual 92, 3) := by decide +kernel
theorem dX0_pass_10 : decode cX0_pass 10 = .ok (.istore_n 2, 1) := by decide +kernel
theorem dX0_pass_11 : decode cX0_pass 11 = .ok (.iload_n 2, 1) := by decide +kernel
theorem dX0_pass_12 : decode cX0_pass 12 = .ok (.iconst (-1), 1) := by decide +kernel
theorem dX0_pass_13 : decode cX0_pass 13 = .ok (.if_icmp .ne 16, 3) := by decide +kernel
theorem dX0_pass_16 : decode cX0_pass 16 = .ok (.aload_n 0, 1) := by decide +kernel
theorem dX0_pass_17 : decode cX0_pass 17 = .ok (.dup, 1) := by decide +kernel
theorem dX0_pass_18 : decode cX0_pass 18 = .ok (.getfield 37, 3) := by decide +kernel
theorem dX0_pass_21 : decode cX0_pass 21 = .ok (.iconst 1, 1) := by decide +kernel
theorem dX0_pass_22 : decode cX0_pass 22 = .ok (.iadd, 1) := by decide +kernel
theorem dX0_pass_23 : decode cX0_pass 23 = .ok (.putfield 37, 3) := by decide +kernel
theorem dX0_pass_26 : decode cX0_pass 26 = .ok (.goto 47, 3) := by decide +kernel
theorem dX0_pass_29 : decode cX0_pass 29 = .ok (.iload_n 2, 1) := by decide +kernel
theorem dX0_pass_30 : decode cX0_pass 30 = .ok (.aload_n 0, 1) := by decide +kernel
theorem dX0_pass_31 : decode cX0_pass 31 = .ok (.getfield 31, 3) := by decide +kernel
theorem dX0_pass_34 : decode cX0_pass 34 = .ok (.if_icmp .eq 39, 3) := by decide +kernel
theorem dX0_pass_37 : decode cX0_pass 37 = .ok (.aload_n 0, 1) := by decide +kernel
theorem dX0_pass_38 : decode cX0_pass 38 = .ok (.aload_n 0, 1) := by decide +kernel
theorem dX0_pass_39 : decode cX0_pass 39 = .ok (.getfield 40, 3) := by decide +kernel
theorem dX0_pass_42 : decode cX0_pass 42 = .ok (.iconst 1, 1) := by decide +kernel
theorem dX0_pass_43 : decode cX0_pass 43 = .ok (.aload_n 0, 1) := by decide +kernel
theorem dX0_pass_44 : decode cX0_pass 44 = .ok (.getfield 31, 3) := by decide +kernel
theorem dX0_pass_47 : decode cX0_pass 47 = .ok (.ishl, 1) := by decide +kernel
theorem dX0_pass_48 : decode cX0_pass 48 = .ok (.ior, 1) := by decide +kernel
theorem dX0_pass_49 : decode cX0_pass 49 = .ok (.iconst 1, 1) := by decide +kernel
theorem dX0_pass_50 : decode cX0_pass 50 = .ok (.iload_n 2, 1) := by decide +kernel
theorem dX0_pass_51 : decode cX0_pass 51 = .ok (.ishl, 1) := by decide +kernel
theorem dX0_pass_52 : decode cX0_pass 52 = .ok (.iconst (-1), 1) := by decide +kernel
theorem dX0_pass_53 : decode cX0_pass 53 = .ok (.ixor, 1) := by decide +kernel
theorem dX0_pass_54 : decode cX0_pass 54 = .ok (.iand, 1) := by decide +kernel
theorem dX0_pass_55 : decode cX0_pass 55 = .ok (.putfield 40, 3) := by decide +kernel
theorem dX0_pass_58 : decode cX0_pass 58 = .ok (.aload_n 0, 1) := by decide +kernel
theorem dX0_pass_59 : decode cX0_pass 59 = .ok (.iload_n 2, 1) := by decide +kernel
theorem dX0_pass_60 : decode cX0_pass 60 = .ok (.putfield 31, 3) := by decide +kernel
theorem dX0_pass_63 : decode cX0_pass 63 = .ok (.aload_n 0, 1) := by decide +kernel
theorem dX0_pass_64 : decode cX0_pass 64 = .ok (.dup, 1) := by decide +kernel
theorem dX0_pass_65 : decode cX0_pass 65 = .ok (.getfield 34, 3) := by decide +kernel
theorem dX0_pass_68 : decode cX0_pass 68 = .ok (.iconst 1, 1) := by decide +kernel
theorem dX0_pass_69 : decode cX0_pass 69 = .ok (.iadd, 1) := by decide +kernel
theorem dX0_pass_70 : decode cX0_pass 70 = .ok (.putfield 34, 3) := by decide +kernel
theorem dX0_pass_73 : decode cX0_pass 73 = .ok (.aload_n 0, 1) := by decide +kernel
theorem dX0_pass_74 : decode cX0_pass 74 = .ok (.aload_n 1, 1) := by decide +kernel
theorem dX0_pass_75 : decode cX0_pass 75 = .ok (.invokevirtual 100, 3) := by decide +kernel
theorem dX0_pass_78 : decode cX0_pass 78 = .ok (.aload_n 0, 1) := by decide +kernel
theorem dX0_pass_79 : decode cX0_pass 79 = .ok (.dup, 1) := by decide +kernel
theorem dX0_pass_80 : decode cX0_pass 80 = .ok (.getfield 27, 3) := by decide +kernel
theorem dX0_pass_83 : decode cX0_pass 83 = .ok (.iconst 1, 1) := by decide +kernel
theorem dX0_pass_84 : decode cX0_pass 84 = .ok (.iadd, 1) := by decide +kernel
theorem dX0_pass_85 : decode cX0_pass 85 = .ok (.putfield 27, 3) := by decide +kernel
theorem dX0_pass_88 : decode cX0_pass 88 = .ok (.return_, 1) := by decide +kernel
theorem dX0_passMany_0 : decode cX0_passMany 0 = .ok (.iconst 0, 1) := by decide +kernel
theorem dX0_passMany_1 : decode cX0_passMany 1 = .ok (.istore_n 3, 1) := by decide +kernel
theorem dX0_passMany_2 : decode cX0_passMany 2 = .ok (.iload_n 3, 1) := by decide +kernel
theorem dX0_passMany_3 : decode cX0_passMany 3 = .ok (.iload_n 2, 1) := by decide +kernel
theorem dX0_passMany_4 : decode cX0_passMany 4 = .ok (.if_icmp .ge 14, 3) := by decide +kernel
theorem dX0_passMany_7 : decode cX0_passMany 7 = .ok (.aload_n 0, 1) := by decide +kernel
theorem dX0_passMany_8 : decode cX0_passMany 8 = .ok (.aload_n 1, 1) := by decide +kernel
theorem dX0_passMany_9 : decode cX0_passMany 9 = .ok (.invokevirtual 103, 3) := by decide +kernel
theorem dX0_passMany_12 : decode cX0_passMany 12 = .ok (.iinc 3 1, 3) := by decide +kernel
theorem dX0_passMany_15 : decode cX0_passMany 15 = .ok (.goto (-13), 3) := by decide +kernel
theorem dX0_passMany_18 : decode cX0_passMany 18 = .ok (.return_, 1) := by decide +kernel
theorem dX0_tire_0 : decode cX0_tire 0 = .ok (.iconst 0, 1) := by decide +kernel
theorem dX0_tire_1 : decode cX0_tire 1 = .ok (.istore_n 2, 1) := by decide +kernel
theorem dX0_tire_2 : decode cX0_tire 2 = .ok (.iload_n 2, 1) := by decide +kernel
theorem dX0_tire_3 : decode cX0_tire 3 = .ok (.aload_n 1, 1) := by decide +kernel
theorem dX0_tire_4 : decode cX0_tire 4 = .ok (.getfield 64, 3) := by decide +kernel
theorem dX0_tire_7 : decode cX0_tire 7 = .ok (.if_icmp .ge 60, 3) := by decide +kernel
theorem dX0_tire_10 : decode cX0_tire 10 = .ok (.aload_n 0, 1) := by decide +kernel
theorem dX0_tire_11 : decode cX0_tire 11 = .ok (.aload_n 1, 1) := by decide +kernel
theorem dX0_tire_12 : decode cX0_tire 12 = .ok (.iload_n 2, 1) := by decide +kernel
theorem dX0_tire_13 : decode cX0_tire 13 = .ok (.invokevirtual 67, 3) := by decide +kernel
theorem dX0_tire_16 : decode cX0_tire 16 = .ok (.ifCond .eq 10, 3) := by decide +kernel
theorem dX0_tire_19 : decode cX0_tire 19 = .ok (.aload_n 1, 1) := by decide +kernel
theorem dX0_tire_20 : decode cX0_tire 20 = .ok (.getfield 106, 3) := by decide +kernel
theorem dX0_tire_23 : decode cX0_tire 23 = .ok (.goto 4, 3) := by decide +kernel
theorem dX0_tire_26 : decode cX0_tire 26 = .ok (.iconst (-1), 1) := by decide +kernel
theorem dX0_tire_27 : decode cX0_tire 27 = .ok (.istore_n 3, 1) := by decide +kernel
theorem dX0_tire_28 : decode cX0_tire 28 = .ok (.aload_n 0, 1) := by decide +kernel
theorem dX0_tire_29 : decode cX0_tire 29 = .ok (.getfield 9, 3) := by decide +kernel
theorem dX0_tire_32 : decode cX0_tire 32 = .ok (.iload_n 2, 1) := by decide +kernel
theorem dX0_tire_33 : decode cX0_tire 33 = .ok (.iaload, 1) := by decide +kernel
theorem dX0_tire_34 : decode cX0_tire 34 = .ok (.iconst 2, 1) := by decide +kernel
theorem dX0_tire_35 : decode cX0_tire 35 = .ok (.if_icmp .eq 26, 3) := by decide +kernel
theorem dX0_tire_38 : decode cX0_tire 38 = .ok (.aload_n 0, 1) := by decide +kernel
theorem dX0_tire_39 : decode cX0_tire 39 = .ok (.getfield 21, 3) := by decide +kernel
theorem dX0_tire_42 : decode cX0_tire 42 = .ok (.iload_n 2, 1) := by decide +kernel
theorem dX0_tire_43 : decode cX0_tire 43 = .ok (.iconst 0, 1) := by decide +kernel
theorem dX0_tire_44 : decode cX0_tire 44 = .ok (.bipush 20, 2) := by decide +kernel
theorem dX0_tire_46 : decode cX0_tire 46 = .ok (.aload_n 0, 1) := by decide +kernel
theorem dX0_tire_47 : decode cX0_tire 47 = .ok (.getfield 21, 3) := by decide +kernel
theorem dX0_tire_50 : decode cX0_tire 50 = .ok (.iload_n 2, 1) := by decide +kernel
theorem dX0_tire_51 : decode cX0_tire 51 = .ok (.iaload, 1) := by decide +kernel
theorem dX0_tire_52 : decode cX0_tire 52 = .ok (.iload_n 3, 1) := by decide +kernel
theorem dX0_tire_53 : decode cX0_tire 53 = .ok (.iadd, 1) := by decide +kernel
theorem dX0_tire_54 : decode cX0_tire 54 = .ok (.invokestatic 109, 3) := by decide +kernel
theorem dX0_tire_57 : decode cX0_tire 57 = .ok (.invokestatic 71, 3) := by decide +kernel
theorem dX0_tire_60 : decode cX0_tire 60 = .ok (.iastore, 1) := by decide +kernel
theorem dX0_tire_61 : decode cX0_tire 61 = .ok (.iinc 2 1, 3) := by decide +kernel
theorem dX0_tire_64 : decode cX0_tire 64 = .ok (.goto (-62), 3) := by decide +kernel
theorem dX0_tire_67 : decode cX0_tire 67 = .ok (.return_, 1) := by decide +kernel
theorem dX0_code_0 : decode cX0_code 0 = .ok (.bipush 6, 2) := by decide +kernel
theorem dX0_code_2 : decode cX0_code 2 = .ok (.aload_n 0, 1) := by decide +kernel
theorem dX0_code_3 : decode cX0_code 3 = .ok (.getfield 31, 3) := by decide +kernel
theorem dX0_code_6 : decode cX0_code 6 = .ok (.imul, 1) := by decide +kernel
theorem dX0_code_7 : decode cX0_code 7 = .ok (.aload_n 0, 1) := by decide +kernel
theorem dX0_code_8 : decode cX0_code 8 = .ok (.getfield 27, 3) := by decide +kernel
theorem dX0_code_11 : decode cX0_code 11 = .ok (.bipush 6, 2) := by decide +kernel
theorem dX0_code_13 : decode cX0_code 13 = .ok (.irem, 1) := by decide +kernel
theorem dX0_code_14 : decode cX0_code 14 = .ok (.iadd, 1) := by decide +kernel
theorem dX0_code_15 : decode cX0_code 15 = .ok (.i2l, 1) := by decide +kernel
theorem dX0_code_16 : decode cX0_code 16 = .ok (.lstore_n 1, 1) := by decide +kernel
theorem dX0_code_17 : decode cX0_code 17 = .ok (.iconst 0, 1) := by decide +kernel
theorem dX0_code_18 : decode cX0_code 18 = .ok (.istore_n 3, 1) := by decide +kernel
theorem dX0_code_19 : decode cX0_code 19 = .ok (.iload_n 3, 1) := by decide +kernel
theorem dX0_code_20 : decode cX0_code 20 = .ok (.bipush 6, 2) := by decide +kernel
theorem dX0_code_22 : decode cX0_code 22 = .ok (.if_icmp .ge 23, 3) := by decide +kernel
theorem dX0_code_25 : decode cX0_code 25 = .ok (.lload_n 1, 1) := by decide +kernel
theorem dX0_code_26 : decode cX0_code 26 = .ok (.ldc2_w 112, 3) := by decide +kernel
theorem dX0_code_29 : decode cX0_code 29 = .ok (.lmul, 1) := by decide +kernel
theorem dX0_code_30 : decode cX0_code 30 = .ok (.aload_n 0, 1) := by decide +kernel
theorem dX0_code_31 : decode cX0_code 31 = .ok (.getfield 21, 3) := by decide +kernel
theorem dX0_code_34 : decode cX0_code 34 = .ok (.iload_n 3, 1) := by decide +kernel
theorem dX0_code_35 : decode cX0_code 35 = .ok (.iaload, 1) := by decide +kernel
theorem dX0_code_36 : decode cX0_code 36 = .ok (.i2l, 1) := by decide +kernel
theorem dX0_code_37 : decode cX0_code 37 = .ok (.ladd, 1) := by decide +kernel
theorem dX0_code_38 : decode cX0_code 38 = .ok (.lstore_n 1, 1) := by decide +kernel
theorem dX0_code_39 : decode cX0_code 39 = .ok (.iinc 3 1, 3) := by decide +kernel
theorem dX0_code_42 : decode cX0_code 42 = .ok (.goto (-23), 3) := by decide +kernel
theorem dX0_code_45 : decode cX0_code 45 = .ok (.lload_n 1, 1) := by decide +kernel
theorem dX0_code_46 : decode cX0_code 46 = .ok (.lreturn, 1) := by decide +kernel
theorem dX1_init_0 : decode cX1_init 0 = .ok (.aload_n 0, 1) := by decide +kernel
theorem dX1_init_1 : decode cX1_init 1 = .ok (.invokespecial 3, 3) := by decide +kernel
theorem dX1_init_4 : decode cX1_init 4 = .ok (.aload_n 0, 1) := by decide +kernel
theorem dX1_init_5 : decode cX1_init 5 = .ok (.bipush 6, 2) := by decide +kernel
theorem dX1_init_7 : decode cX1_init 7 = .ok (.newarray .int, 2) := by decide +kernel
theorem dX1_init_9 : decode cX1_init 9 = .ok (.putfield 9, 3) := by decide +kernel
theorem dX1_init_12 : decode cX1_init 12 = .ok (.aload_n 0, 1) := by decide +kernel
theorem dX1_init_13 : decode cX1_init 13 = .ok (.bipush 36, 2) := by decide +kernel
theorem dX1_init_15 : decode cX1_init 15 = .ok (.newarray .int, 2) := by decide +kernel
theorem dX1_init_17 : decode cX1_init 17 = .ok (.putfield 15, 3) := by decide +kernel
theorem dX1_init_20 : decode cX1_init 20 = .ok (.aload_n 0, 1) := by decide +kernel
theorem dX1_init_21 : decode cX1_init 21 = .ok (.bipush 6, 2) := by decide +kernel
theorem dX1_init_23 : decode cX1_init 23 = .ok (.newarray .int, 2) := by decide +kernel
theorem dX1_init_25 : decode cX1_init 25 = .ok (.putfield 18, 3) := by decide +kernel
theorem dX1_init_28 : decode cX1_init 28 = .ok (.aload_n 0, 1) := by decide +kernel
theorem dX1_init_29 : decode cX1_init 29 = .ok (.bipush 6, 2) := by decide +kernel
theorem dX1_init_31 : decode cX1_init 31 = .ok (.newarray .int, 2) := by decide +kernel
theorem dX1_init_33 : decode cX1_init 33 = .ok (.putfield 21, 3) := by decide +kernel
theorem dX1_init_36 : decode cX1_init 36 = .ok (.aload_n 0, 1) := by decide +kernel
theorem dX1_init_37 : decode cX1_init 37 = .ok (.bipush 6, 2) := by decide +kernel
theorem dX1_init_39 : decode cX1_init 39 = .ok (.newarray .int, 2) := by decide +kernel
theorem dX1_init_41 : decode cX1_init 41 = .ok (.putfield 24, 3) := by decide +kernel
theorem dX1_init_44 : decode cX1_init 44 = .ok (.return_, 1) := by decide +kernel
theorem dX1_clear_0 : decode cX1_clear 0 = .ok (.aload_n 0, 1) := by decide +kernel
theorem dX1_clear_1 : decode cX1_clear 1 = .ok (.iconst 0, 1) := by decide +kernel
theorem dX1_clear_2 : decode cX1_clear 2 = .ok (.putfield 27, 3) := by decide +kernel
theorem dX1_clear_5 : decode cX1_clear 5 = .ok (.aload_n 0, 1) := by decide +kernel
theorem dX1_clear_6 : decode cX1_clear 6 = .ok (.iconst 0, 1) := by decide +kernel
theorem dX1_clear_7 : decode cX1_clear 7 = .ok (.putfield 31, 3) := by decide +kernel
theorem dX1_clear_10 : decode cX1_clear 10 = .ok (.iconst 0, 1) := by decide +kernel
theorem dX1_clear_11 : decode cX1_clear 11 = .ok (.istore_n 1, 1) := by decide +kernel
theorem dX1_clear_12 : decode cX1_clear 12 = .ok (.iload_n 1, 1) := by decide +kernel
theorem dX1_clear_13 : decode cX1_clear 13 = .ok (.bipush 6, 2) := by decide +kernel
theorem dX1_clear_15 : decode cX1_clear 15 = .ok (.if_icmp .ge 16, 3) := by decide +kernel
theorem dX1_clear_18 : decode cX1_clear 18 = .ok (.aload_n 0, 1) := by decide +kernel
theorem dX1_clear_19 : decode cX1_clear 19 = .ok (.getfield 9, 3) := by decide +kernel
theorem dX1_clear_22 : decode cX1_clear 22 = .ok (.iload_n 1, 1) := by decide +kernel
theorem dX1_clear_23 : decode cX1_clear 23 = .ok (.iconst 0, 1) := by decide +kernel
theorem dX1_clear_24 : decode cX1_clear 24 = .ok (.iastore, 1) := by decide +kernel
theorem dX1_clear_25 : decode cX1_clear 25 = .ok (.iinc 1 1, 3) := by decide +kernel
theorem dX1_clear_28 : decode cX1_clear 28 = .ok (.goto (-16), 3) := by decide +kernel
theorem dX1_clear_31 : decode cX1_clear 31 = .ok (.return_, 1) := by decide +kernel
theorem dX1_take_0 : decode cX1_take 0 = .ok (.aload_n 0, 1) := by decide +kernel
theorem dX1_take_1 : decode cX1_take 1 = .ok (.aload_n 1, 1) := by decide +kernel
theorem dX1_take_2 : decode cX1_take 2 = .ok (.getfield 34, 3) := by decide +kernel
theorem dX1_take_5 : decode cX1_take 5 = .ok (.putfield 34, 3) := by decide +kernel
theorem dX1_take_8 : decode cX1_take 8 = .ok (.aload_n 0, 1) := by decide +kernel
theorem dX1_take_9 : decode cX1_take 9 = .ok (.aload_n 1, 1) := by decide +kernel
theorem dX1_take_10 : decode cX1_take 10 = .ok (.getfield 37, 3) := by decide +kernel
theorem dX1_take_13 : decode cX1_take 13 = .ok (.putfield 37, 3) := by decide +kernel
theorem dX1_take_16 : decode cX1_take 16 = .ok (.aload_n 0, 1) := by decide +kernel
theorem dX1_take_17 : decode cX1_take 17 = .ok (.aload_n 1, 1) := by decide +kernel
theorem dX1_take_18 : decode cX1_take 18 = .ok (.getfield 40, 3) := by decide +kernel
theorem dX1_take_21 : decode cX1_take 21 = .ok (.putfield 40, 3) := by decide +kernel
theorem dX1_take_24 : decode cX1_take 24 = .ok (.aload_n 0, 1) := by decide +kernel
theorem dX1_take_25 : decode cX1_take 25 = .ok (.aload_n 1, 1) := by decide +kernel
theorem dX1_take_26 : decode cX1_take 26 = .ok (.getfield 27, 3) := by decide +kernel
theorem dX1_take_29 : decode cX1_take 29 = .ok (.putfield 27, 3) := by decide +kernel
theorem dX1_take_32 : decode cX1_take 32 = .ok (.aload_n 0, 1) := by decide +kernel
theorem dX1_take_33 : decode cX1_take 33 = .ok (.aload_n 1, 1) := by decide +kernel
theorem dX1_take_34 : decode cX1_take 34 = .ok (.getfield 31, 3) := by decide +kernel
theorem dX1_take_37 : decode cX1_take 37 = .ok (.putfield 31, 3) := by decide +kernel
theorem dX1_take_40 : decode cX1_take 40 = .ok (.aload_n 1, 1) := by decide +kernel
theorem dX1_take_41 : decode cX1_take 41 = .ok (.getfield 9, 3) := by decide +kernel
theorem dX1_take_44 : decode cX1_take 44 = .ok (.iconst 0, 1) := by decide +kernel
theorem dX1_take_45 : decode cX1_take 45 = .ok (.aload_n 0, 1) := by decide +kernel
theorem dX1_take_46 : decode cX1_take 46 = .ok (.getfield 9, 3) := by decide +kernel
theorem dX1_take_49 : decode cX1_take 49 = .ok (.iconst 0, 1) := by decide +kernel
theorem dX1_take_50 : decode cX1_take 50 = .ok (.bipush 6, 2) := by decide +kernel
theorem dX1_take_52 : decode cX1_take 52 = .ok (.invokestatic 43, 3) := by decide +kernel
theorem dX1_take_55 : decode cX1_take 55 = .ok (.aload_n 1, 1) := by decide +kernel
theorem dX1_take_56 : decode cX1_take 56 = .ok (.getfield 15, 3) := by decide +kernel
theorem dX1_take_59 : decode cX1_take 59 = .ok (.iconst 0, 1) := by decide +kernel
theorem dX1_take_60 : decode cX1_take 60 = .ok (.aload_n 0, 1) := by decide +kernel
theorem dX1_take_61 : decode cX1_take 61 = .ok (.getfield 15, 3) := by decide +kernel
theorem dX1_take_64 : decode cX1_take 64 = .ok (.iconst 0, 1) := by decide +kernel
theorem dX1_take_65 : decode cX1_take 65 = .ok (.bipush 36, 2) := by decide +kernel
theorem dX1_take_67 : decode cX1_take 67 = .ok (.invokestatic 43, 3) := by decide +kernel
theorem dX1_take_70 : decode cX1_take 70 = .ok (.aload_n 1, 1) := by decide +kernel
theorem dX1_take_71 : decode cX1_take 71 = .ok (.getfield 18, 3) := by decide +kernel
theorem dX1_take_74 : decode cX1_take 74 = .ok (.iconst 0, 1) := by decide +kernel
theorem dX1_take_75 : decode cX1_take 75 = .ok (.aload_n 0, 1) := by decide +kernel
theorem dX1_take_76 : decode cX1_take 76 = .ok (.getfield 18, 3) := by decide +kernel
theorem dX1_take_79 : decode cX1_take 79 = .ok (.iconst 0, 1) := by decide +kernel
theorem dX1_take_80 : decode cX1_take 80 = .ok (.bipush 6, 2) := by decide +kernel
theorem dX1_take_82 : decode cX1_take 82 = .ok (.invokestatic 43, 3) := by decide +kernel
theorem dX1_take_85 : decode cX1_take 85 = .ok (.aload_n 1, 1) := by decide +kernel
theorem dX1_take_86 : decode cX1_take 86 = .ok (.getfield 21, 3) := by decide +kernel
theorem dX1_take_89 : decode cX1_take 89 = .ok (.iconst 0, 1) := by decide +kernel
theorem dX1_take_90 : decode cX1_take 90 = .ok (.aload_n 0, 1) := by decide +kernel
theorem dX1_take_91 : decode cX1_take 91 = .ok (.getfield 21, 3) := by decide +kernel
theorem dX1_take_94 : decode cX1_take 94 = .ok (.iconst 0, 1) := by decide +kernel
theorem dX1_take_95 : decode cX1_take 95 = .ok (.bipush 6, 2) := by decide +kernel
theorem dX1_take_97 : decode cX1_take 97 = .ok (.invokestatic 43, 3) := by decide +kernel
theorem dX1_take_100 : decode cX1_take 100 = .ok (.aload_n 1, 1) := by decide +kernel
theorem dX1_take_101 : decode cX1_take 101 = .ok (.getfield 24, 3) := by decide +kernel
theorem dX1_take_104 : decode cX1_take 104 = .ok (.iconst 0, 1) := by decide +kernel
theorem dX1_take_105 : decode cX1_take 105 = .ok (.aload_n 0, 1) := by decide +kernel
theorem dX1_take_106 : decode cX1_take 106 = .ok (.getfield 24, 3) := by decide +kernel
theorem dX1_take_109 : decode cX1_take 109 = .ok (.iconst 0, 1) := by decide +kernel
theorem dX1_take_110 : decode cX1_take 110 = .ok (.bipush 6, 2) := by decide +kernel
theorem dX1_take_112 : decode cX1_take 112 = .ok (.invokestatic 43, 3) := by decide +kernel
theorem dX1_take_115 : decode cX1_take 115 = .ok (.return_, 1) := by decide +kernel
theorem dX1_everyone_0 : decode cX1_everyone 0 = .ok (.iconst 1, 1) := by decide +kernel
theorem dX1_everyone_1 : decode cX1_everyone 1 = .ok (.aload_n 0, 1) := by decide +kernel
theorem dX1_everyone_2 : decode cX1_everyone 2 = .ok (.getfield 31, 3) := by decide +kernel
theorem dX1_everyone_5 : decode cX1_everyone 5 = .ok (.ishl, 1) := by decide +kernel
theorem dX1_everyone_6 : decode cX1_everyone 6 = .ok (.iconst 1, 1) := by decide +kernel
theorem dX1_everyone_7 : decode cX1_everyone 7 = .ok (.isub, 1) := by decide +kernel
theorem dX1_everyone_8 : decode cX1_everyone 8 = .ok (.ireturn, 1) := by decide +kernel
theorem dX1_way_0 : decode cX1_way 0 = .ok (.aload_n 0, 1) := by decide +kernel
theorem dX1_way_1 : decode cX1_way 1 = .ok (.getfield 15, 3) := by decide +kernel
theorem dX1_way_4 : decode cX1_way 4 = .ok (.bipush 6, 2) := by decide +kernel
theorem dX1_way_6 : decode cX1_way 6 = .ok (.iload_n 1, 1) := by decide +kernel
theorem dX1_way_7 : decode cX1_way 7 = .ok (.imul, 1) := by decide +kernel
theorem dX1_way_8 : decode cX1_way 8 = .ok (.iload_n 2, 1) := by decide +kernel
theorem dX1_way_9 : decode cX1_way 9 = .ok (.iadd, 1) := by decide +kernel
theorem dX1_way_10 : decode cX1_way 10 = .ok (.iaload, 1) := by decide +kernel
theorem dX1_way_11 : decode cX1_way 11 = .ok (.ireturn, 1) := by decide +kernel
theorem dX1_joins_0 : decode cX1_joins 0 = .ok (.iload_n 1, 1) := by decide +kernel
theorem dX1_joins_1 : decode cX1_joins 1 = .ok (.iload_n 2, 1) := by decide +kernel
theorem dX1_joins_2 : decode cX1_joins 2 = .ok (.if_icmp .eq 17, 3) := by decide +kernel
theorem dX1_joins_5 : decode cX1_joins 5 = .ok (.aload_n 0, 1) := by decide +kernel
theorem dX1_joins_6 : decode cX1_joins 6 = .ok (.getfield 9, 3) := by decide +kernel
theorem dX1_joins_9 : decode cX1_joins 9 = .ok (.iload_n 1, 1) := by decide +kernel
theorem dX1_joins_10 : decode cX1_joins 10 = .ok (.iaload, 1) := by decide +kernel
theorem dX1_joins_11 : decode cX1_joins 11 = .ok (.iload_n 2, 1) := by decide +kernel
theorem dX1_joins_12 : decode cX1_joins 12 = .ok (.invokestatic 49, 3) := by decide +kernel
theorem dX1_joins_15 : decode cX1_joins 15 = .ok (.iconst 1, 1) := by decide +kernel
theorem dX1_joins_16 : decode cX1_joins 16 = .ok (.if_icmp .ne 5, 3) := by decide +kernel
theorem dX1_joins_19 : decode cX1_joins 19 = .ok (.iconst 0, 1) := by decide +kernel
theorem dX1_joins_20 : decode cX1_joins 20 = .ok (.ireturn, 1) := by decide +kernel
theorem dX1_joins_21 : decode cX1_joins 21 = .ok (.aload_n 0, 1) := by decide +kernel
theorem dX1_joins_22 : decode cX1_joins 22 = .ok (.getfield 9, 3) := by decide +kernel
theorem dX1_joins_25 : decode cX1_joins 25 = .ok (.iload_n 1, 1) := by decide +kernel
theorem dX1_joins_26 : decode cX1_joins 26 = .ok (.dup2, 1) := by decide +kernel
theorem dX1_joins_27 : decode cX1_joins 27 = .ok (.iaload, 1) := by decide +kernel
theorem dX1_joins_28 : decode cX1_joins 28 = .ok (.iconst 1, 1) := by decide +kernel
theorem dX1_joins_29 : decode cX1_joins 29 = .ok (.iload_n 2, 1) := by decide +kernel
theorem dX1_joins_30 : decode cX1_joins 30 = .ok (.ishl, 1) := by decide +kernel
theorem dX1_joins_31 : decode cX1_joins 31 = .ok (.ior, 1) := by decide +kernel
theorem dX1_joins_32 : decode cX1_joins 32 = .ok (.iastore, 1) := by decide +kernel
theorem dX1_joins_33 : decode cX1_joins 33 = .ok (.aload_n 0, 1) := by decide +kernel
theorem dX1_joins_34 : decode cX1_joins 34 = .ok (.getfield 9, 3) := by decide +kernel
theorem dX1_joins_37 : decode cX1_joins 37 = .ok (.iload_n 2, 1) := by decide +kernel
theorem dX1_joins_38 : decode cX1_joins 38 = .ok (.dup2, 1) := by decide +kernel
theorem dX1_joins_39 : decode cX1_joins 39 = .ok (.iaload, 1) := by decide +kernel
theorem dX1_joins_40 : decode cX1_joins 40 = .ok (.iconst 1, 1) := by decide +kernel
theorem dX1_joins_41 : decode cX1_joins 41 = .ok (.iload_n 1, 1) := by decide +kernel
theorem dX1_joins_42 : decode cX1_joins 42 = .ok (.ishl, 1) := by decide +kernel
theorem dX1_joins_43 : decode cX1_joins 43 = .ok (.ior, 1) := by decide +kernel
theorem dX1_joins_44 : decode cX1_joins 44 = .ok (.iastore, 1) := by decide +kernel
theorem dX1_joins_45 : decode cX1_joins 45 = .ok (.aload_n 0, 1) := by decide +kernel
theorem dX1_joins_46 : decode cX1_joins 46 = .ok (.dup, 1) := by decide +kernel
theorem dX1_joins_47 : decode cX1_joins 47 = .ok (.getfield 27, 3) := by decide +kernel
theorem dX1_joins_50 : decode cX1_joins 50 = .ok (.iconst 1, 1) := by decide +kernel
theorem dX1_joins_51 : decode cX1_joins 51 = .ok (.iadd, 1) := by decide +kernel
theorem dX1_joins_52 : decode cX1_joins 52 = .ok (.putfield 27, 3) := by decide +kernel
theorem dX1_joins_55 : decode cX1_joins 55 = .ok (.iconst 1, 1) := by decide +kernel
theorem dX1_joins_56 : decode cX1_joins 56 = .ok (.ireturn, 1) := by decide +kernel
theorem dX1_measure_0 : decode cX1_measure 0 = .ok (.iconst 0, 1) := by decide +kernel
theorem dX1_measure_1 : decode cX1_measure 1 = .ok (.istore_n 1, 1) := by decide +kernel
theorem dX1_measure_2 : decode cX1_measure 2 = .ok (.iload_n 1, 1) := by decide +kernel
theorem dX1_measure_3 : decode cX1_measure 3 = .ok (.bipush 6, 2) := by decide +kernel
theorem dX1_measure_5 : decode cX1_measure 5 = .ok (.if_icmp .ge 65, 3) := by decide +kernel
theorem dX1_measure_8 : decode cX1_measure 8 = .ok (.iconst 0, 1) := by decide +kernel
theorem dX1_measure_9 : decode cX1_measure 9 = .ok (.istore_n 2, 1) := by decide +kernel
theorem dX1_measure_10 : decode cX1_measure 10 = .ok (.iload_n 2, 1) := by decide +kernel
theorem dX1_measure_11 : decode cX1_measure 11 = .ok (.bipush 6, 2) := by decide +kernel
theorem dX1_measure_13 : decode cX1_measure 13 = .ok (.if_icmp .ge 51, 3) := by decide +kernel
theorem dX1_measure_16 : decode cX1_measure 16 = .ok (.aload_n 0, 1) := by decide +kernel
theorem dX1_measure_17 : decode cX1_measure 17 = .ok (.getfield 9, 3) := by decide +kernel
theorem dX1_measure_20 : decode cX1_measure 20 = .ok (.iload_n 1, 1) := by decide +kernel
theorem dX1_measure_21 : decode cX1_measure 21 = .ok (.iaload, 1) := by decide +kernel
theorem dX1_measure_22 : decode cX1_measure 22 = .ok (.iload_n 2, 1) := by decide +kernel
theorem dX1_measure_23 : decode cX1_measure 23 = .ok (.invokestatic 49, 3) := by decide +kernel
theorem dX1_measure_26 : decode cX1_measure 26 = .ok (.iconst 1, 1) := by decide +kernel
theorem dX1_measure_27 : decode cX1_measure 27 = .ok (.if_icmp .ne 7, 3) := by decide +kernel
theorem dX1_measure_30 : decode cX1_measure 30 = .ok (.iconst 1, 1) := by decide +kernel
theorem dX1_measure_31 : decode cX1_measure 31 = .ok (.goto 5, 3) := by decide +kernel
theorem dX1_measure_34 : decode cX1_measure 34 = .ok (.bipush 9, 2) := by decide +kernel
theorem dX1_measure_36 : decode cX1_measure 36 = .ok (.istore_n 3, 1) := by decide +kernel
theorem dX1_measure_37 : decode cX1_measure 37 = .ok (.aload_n 0, 1) := by decide +kernel
theorem dX1_measure_38 : decode cX1_measure 38 = .ok (.getfield 15, 3) := by decide +kernel
theorem dX1_measure_41 : decode cX1_measure 41 = .ok (.bipush 6, 2) := by decide +kernel
theorem dX1_measure_43 : decode cX1_measure 43 = .ok (.iload_n 1, 1) := by decide +kernel
theorem dX1_measure_44 : decode cX1_measure 44 = .ok (.imul, 1) := by decide +kernel
theorem dX1_measure_45 : decode cX1_measure 45 = .ok (.iload_n 2, 1) := by decide +kernel
theorem dX1_measure_46 : decode cX1_measure 46 = .ok (.iadd, 1) := by decide +kernel
theorem dX1_measure_47 : decode cX1_measure 47 = .ok (.iload_n 1, 1) := by decide +kernel
theorem dX1_measure_48 : decode cX1_measure 48 = .ok (.iload_n 2, 1) := by decide +kernel
theorem dX1_measure_49 : decode cX1_measure 49 = .ok (.if_icmp .ne 7, 3) := by decide +kernel
theorem dX1_measure_52 : decode cX1_measure 52 = .ok (.iconst 0, 1) := by decide +kernel
theorem dX1_measure_53 : decode cX1_measure 53 = .ok (.goto 4, 3) := by decide +kernel
theorem dX1_measure_56 : decode cX1_measure 56 = .ok (.iload_n 3, 1) := by decide +kernel
theorem dX1_measure_57 : decode cX1_measure 57 = .ok (.iastore, 1) := by decide +kernel
theorem dX1_measure_58 : decode cX1_measure 58 = .ok (.iinc 2 1, 3) := by decide +kernel
theorem dX1_measure_61 : decode cX1_measure 61 = .ok (.goto (-51), 3) := by decide +kernel
theorem dX1_measure_64 : decode cX1_measure 64 = .ok (.iinc 1 1, 3) := by decide +kernel
theorem dX1_measure_67 : decode cX1_measure 67 = .ok (.goto (-65), 3) := by decide +kernel
theorem dX1_measure_70 : decode cX1_measure 70 = .ok (.iconst 0, 1) := by decide +kernel
theorem dX1_measure_71 : decode cX1_measure 71 = .ok (.istore_n 1, 1) := by decide +kernel
theorem dX1_measure_72 : decode cX1_measure 72 = .ok (.iload_n 1, 1) := by decide +kernel
theorem dX1_measure_73 : decode cX1_measure 73 = .ok (.bipush 6, 2) := by decide +kernel
theorem dX1_measure_75 : decode cX1_measure 75 = .ok (.if_icmp .ge 74, 3) := by decide +kernel
theorem dX1_measure_78 : decode cX1_measure 78 = .ok (.iconst 0, 1) := by decide +kernel
theorem dX1_measure_79 : decode cX1_measure 79 = .ok (.istore_n 2, 1) := by decide +kernel
theorem dX1_measure_80 : decode cX1_measure 80 = .ok (.iload_n 2, 1) := by decide +kernel
theorem dX1_measure_81 : decode cX1_measure 81 = .ok (.bipush 6, 2) := by decide +kernel
theorem dX1_measure_83 : decode cX1_measure 83 = .ok (.if_icmp .ge 60, 3) := by decide +kernel
theorem dX1_measure_86 : decode cX1_measure 86 = .ok (.iconst 0, 1) := by decide +kernel
theorem dX1_measure_87 : decode cX1_measure 87 = .ok (.istore_n 3, 1) := by decide +kernel
theorem dX1_measure_88 : decode cX1_measure 88 = .ok (.iload_n 3, 1) := by decide +kernel
theorem dX1_measure_89 : decode cX1_measure 89 = .ok (.bipush 6, 2) := by decide +kernel
theorem dX1_measure_91 : decode cX1_measure 91 = .ok (.if_icmp .ge 46, 3) := by decide +kernel
theorem dX1_measure_94 : decode cX1_measure 94 = .ok (.aload_n 0, 1) := by decide +kernel
theorem dX1_measure_95 : decode cX1_measure 95 = .ok (.iload_n 2, 1) := by decide +kernel
theorem dX1_measure_96 : decode cX1_measure 96 = .ok (.iload_n 1, 1) := by decide +kernel
theorem dX1_measure_97 : decode cX1_measure 97 = .ok (.invokevirtual 53, 3) := by decide +kernel
theorem dX1_measure_100 : decode cX1_measure 100 = .ok (.aload_n 0, 1) := by decide +kernel
theorem dX1_measure_101 : decode cX1_measure 101 = .ok (.iload_n 1, 1) := by decide +kernel
theorem dX1_measure_102 : decode cX1_measure 102 = .ok (.iload_n 3, 1) := by decide +kernel
theorem dX1_measure_103 : decode cX1_measure 103 = .ok (.invokevirtual 53, 3) := by decide +kernel
theorem dX1_measure_106 : decode cX1_measure 106 = .ok (.iadd, 1) := by decide +kernel
theorem dX1_measure_107 : decode cX1_measure 107 = .ok (.istore 4, 2) := by decide +kernel
theorem dX1_measure_109 : decode cX1_measure 109 = .ok (.aload_n 0, 1) := by decide +kernel
theorem dX1_measure_110 : decode cX1_measure 110 = .ok (.getfield 15, 3) := by decide +kernel
theorem dX1_measure_113 : decode cX1_measure 113 = .ok (.bipush 6, 2) := by decide +kernel
theorem dX1_measure_115 : decode cX1_measure 115 = .ok (.iload_n 2, 1) := by decide +kernel
theorem dX1_measure_116 : decode cX1_measure 116 = .ok (.imul, 1) := by decide +kernel
theorem dX1_measure_117 : decode cX1_measure 117 = .ok (.iload_n 3, 1) := by decide +kernel
theorem dX1_measure_118 : decode cX1_measure 118 = .ok (.iadd, 1) := by decide +kernel
theorem dX1_measure_119 : decode cX1_measure 119 = .ok (.aload_n 0, 1) := by decide +kernel
theorem dX1_measure_120 : decode cX1_measure 120 = .ok (.iload_n 2, 1) := by decide +kernel
theorem dX1_measure_121 : decode cX1_measure 121 = .ok (.iload_n 3, 1) := by decide +kernel
theorem dX1_measure_122 : decode cX1_measure 122 = .ok (.invokevirtual 53, 3) := by decide +kernel
theorem dX1_measure_125 : decode cX1_measure 125 = .ok (.iload 4, 2) := by decide +kernel
theorem dX1_measure_127 : decode cX1_measure 127 = .ok (.invokestatic 56, 3) := by decide +kernel
theorem dX1_measure_130 : decode cX1_measure 130 = .ok (.iastore, 1) := by decide +kernel
theorem dX1_measure_131 : decode cX1_measure 131 = .ok (.iinc 3 1, 3) := by decide +kernel
theorem dX1_measure_134 : decode cX1_measure 134 = .ok (.goto (-46), 3) := by decide +kernel
theorem dX1_measure_137 : decode cX1_measure 137 = .ok (.iinc 2 1, 3) := by decide +kernel
theorem dX1_measure_140 : decode cX1_measure 140 = .ok (.goto (-60), 3) := by decide +kernel
theorem dX1_measure_143 : decode cX1_measure 143 = .ok (.iinc 1 1, 3) := by decide +kernel
theorem dX1_measure_146 : decode cX1_measure 146 = .ok (.goto (-74), 3) := by decide +kernel
theorem dX1_measure_149 : decode cX1_measure 149 = .ok (.return_, 1) := by decide +kernel
theorem dX2_init_0 : decode cX2_init 0 = .ok (.aload_n 0, 1) := by decide +kernel
theorem dX2_init_1 : decode cX2_init 1 = .ok (.invokespecial 3, 3) := by decide +kernel
theorem dX2_init_4 : decode cX2_init 4 = .ok (.aload_n 0, 1) := by decide +kernel
theorem dX2_init_5 : decode cX2_init 5 = .ok (.bipush 24, 2) := by decide +kernel
theorem dX2_init_7 : decode cX2_init 7 = .ok (.anewarray 9, 3) := by decide +kernel
theorem dX2_init_10 : decode cX2_init 10 = .ok (.putfield 11, 3) := by decide +kernel
theorem dX2_init_13 : decode cX2_init 13 = .ok (.iconst 0, 1) := by decide +kernel
theorem dX2_init_14 : decode cX2_init 14 = .ok (.istore_n 1, 1) := by decide +kernel
theorem dX2_init_15 : decode cX2_init 15 = .ok (.iload_n 1, 1) := by decide +kernel
theorem dX2_init_16 : decode cX2_init 16 = .ok (.bipush 24, 2) := by decide +kernel
theorem dX2_init_18 : decode cX2_init 18 = .ok (.if_icmp .ge 22, 3) := by decide +kernel
theorem dX2_init_21 : decode cX2_init 21 = .ok (.aload_n 0, 1) := by decide +kernel
theorem dX2_init_22 : decode cX2_init 22 = .ok (.getfield 11, 3) := by decide +kernel
theorem dX2_init_25 : decode cX2_init 25 = .ok (.iload_n 1, 1) := by decide +kernel
theorem dX2_init_26 : decode cX2_init 26 = .ok (.new 9, 3) := by decide +kernel
theorem dX2_init_29 : decode cX2_init 29 = .ok (.dup, 1) := by decide +kernel
theorem dX2_init_30 : decode cX2_init 30 = .ok (.invokespecial 17, 3) := by decide +kernel
theorem dX2_init_33 : decode cX2_init 33 = .ok (.aastore, 1) := by decide +kernel
theorem dX2_init_34 : decode cX2_init 34 = .ok (.iinc 1 1, 3) := by decide +kernel
theorem dX2_init_37 : decode cX2_init 37 = .ok (.goto (-22), 3) := by decide +kernel
theorem dX2_init_40 : decode cX2_init 40 = .ok (.return_, 1) := by decide +kernel
theorem dX2_forget_0 : decode cX2_forget 0 = .ok (.aload_n 0, 1) := by decide +kernel
theorem dX2_forget_1 : decode cX2_forget 1 = .ok (.iconst 0, 1) := by decide +kernel
theorem dX2_forget_2 : decode cX2_forget 2 = .ok (.putfield 18, 3) := by decide +kernel
theorem dX2_forget_5 : decode cX2_forget 5 = .ok (.return_, 1) := by decide +kernel
theorem dX2_keep_0 : decode cX2_keep 0 = .ok (.aload_n 0, 1) := by decide +kernel
theorem dX2_keep_1 : decode cX2_keep 1 = .ok (.getfield 11, 3) := by decide +kernel
theorem dX2_keep_4 : decode cX2_keep 4 = .ok (.aload_n 0, 1) := by decide +kernel
theorem dX2_keep_5 : decode cX2_keep 5 = .ok (.getfield 22, 3) := by decide +kernel
theorem dX2_keep_8 : decode cX2_keep 8 = .ok (.aaload, 1) := by decide +kernel
theorem dX2_keep_9 : decode cX2_keep 9 = .ok (.aload_n 1, 1) := by decide +kernel
theorem dX2_keep_10 : decode cX2_keep 10 = .ok (.invokevirtual 25, 3) := by decide +kernel
theorem dX2_keep_13 : decode cX2_keep 13 = .ok (.aload_n 0, 1) := by decide +kernel
theorem dX2_keep_14 : decode cX2_keep 14 = .ok (.aload_n 0, 1) := by decide +kernel
theorem dX2_keep_15 : decode cX2_keep 15 = .ok (.getfield 22, 3) := by decide +kernel
theorem dX2_keep_18 : decode cX2_keep 18 = .ok (.iconst 1, 1) := by decide +kernel
theorem dX2_keep_19 : decode cX2_keep 19 = .ok (.iadd, 1) := by decide +kernel
theorem dX2_keep_20 : decode cX2_keep 20 = .ok (.bipush 24, 2) := by decide +kernel
theorem dX2_keep_22 : decode cX2_keep 22 = .ok (.irem, 1) := by decide +kernel
theorem dX2_keep_23 : decode cX2_keep 23 = .ok (.putfield 22, 3) := by decide +kernel
theorem dX2_keep_26 : decode cX2_keep 26 = .ok (.aload_n 0, 1) := by decide +kernel
theorem dX2_keep_27 : decode cX2_keep 27 = .ok (.bipush 24, 2) := by decide +kernel
theorem dX2_keep_29 : decode cX2_keep 29 = .ok (.aload_n 0, 1) := by decide +kernel
theorem dX2_keep_30 : decode cX2_keep 30 = .ok (.getfield 18, 3) := by decide +kernel
theorem dX2_keep_33 : decode cX2_keep 33 = .ok (.iconst 1, 1) := by decide +kernel
theorem dX2_keep_34 : decode cX2_keep 34 = .ok (.iadd, 1) := by decide +kernel
theorem dX2_keep_35 : decode cX2_keep 35 = .ok (.invokestatic 29, 3) := by decide +kernel
theorem dX2_keep_38 : decode cX2_keep 38 = .ok (.putfield 18, 3) := by decide +kernel
theorem dX2_keep_41 : decode cX2_keep 41 = .ok (.return_, 1) := by decide +kernel
theorem dX2_goBack_0 : decode cX2_goBack 0 = .ok (.aload_n 0, 1) := by decide +kernel
theorem dX2_goBack_1 : decode cX2_goBack 1 = .ok (.aload_n 0, 1) := by decide +kernel
theorem dX2_goBack_2 : decode cX2_goBack 2 = .ok (.getfield 22, 3) := by decide +kernel
theorem dX2_goBack_5 : decode cX2_goBack 5 = .ok (.bipush 24, 2) := by decide +kernel
theorem dX2_goBack_7 : decode cX2_goBack 7 = .ok (.iadd, 1) := by decide +kernel
theorem dX2_goBack_8 : decode cX2_goBack 8 = .ok (.iconst 1, 1) := by decide +kernel
theorem dX2_goBack_9 : decode cX2_goBack 9 = .ok (.isub, 1) := by decide +kernel
theorem dX2_goBack_10 : decode cX2_goBack 10 = .ok (.bipush 24, 2) := by decide +kernel
theorem dX2_goBack_12 : decode cX2_goBack 12 = .ok (.irem, 1) := by decide +kernel
theorem dX2_goBack_13 : decode cX2_goBack 13 = .ok (.putfield 22, 3) := by decide +kernel
theorem dX2_goBack_16 : decode cX2_goBack 16 = .ok (.aload_n 1, 1) := by decide +kernel
theorem dX2_goBack_17 : decode cX2_goBack 17 = .ok (.aload_n 0, 1) := by decide +kernel
theorem dX2_goBack_18 : decode cX2_goBack 18 = .ok (.getfield 11, 3) := by decide +kernel
theorem dX2_goBack_21 : decode cX2_goBack 21 = .ok (.aload_n 0, 1) := by decide +kernel
theorem dX2_goBack_22 : decode cX2_goBack 22 = .ok (.getfield 22, 3) := by decide +kernel
theorem dX2_goBack_25 : decode cX2_goBack 25 = .ok (.aaload, 1) := by decide +kernel
theorem dX2_goBack_26 : decode cX2_goBack 26 = .ok (.invokevirtual 25, 3) := by decide +kernel
theorem dX2_goBack_29 : decode cX2_goBack 29 = .ok (.aload_n 0, 1) := by decide +kernel
theorem dX2_goBack_30 : decode cX2_goBack 30 = .ok (.dup, 1) := by decide +kernel
theorem dX2_goBack_31 : decode cX2_goBack 31 = .ok (.getfield 18, 3) := by decide +kernel
theorem dX2_goBack_34 : decode cX2_goBack 34 = .ok (.iconst 1, 1) := by decide +kernel
theorem dX2_goBack_35 : decode cX2_goBack 35 = .ok (.isub, 1) := by decide +kernel
theorem dX2_goBack_36 : decode cX2_goBack 36 = .ok (.putfield 18, 3) := by decide +kernel
theorem dX2_goBack_39 : decode cX2_goBack 39 = .ok (.return_, 1) := by decide +kernel
theorem dX3_init_0 : decode cX3_init 0 = .ok (.aload_n 0, 1) := by decide +kernel
theorem dX3_init_1 : decode cX3_init 1 = .ok (.invokespecial 3, 3) := by decide +kernel
theorem dX3_init_4 : decode cX3_init 4 = .ok (.aload_n 0, 1) := by decide +kernel
theorem dX3_init_5 : decode cX3_init 5 = .ok (.bipush 8, 2) := by decide +kernel
theorem dX3_init_7 : decode cX3_init 7 = .ok (.newarray .int, 2) := by decide +kernel
theorem dX3_init_9 : decode cX3_init 9 = .ok (.putfield 9, 3) := by decide +kernel
theorem dX3_init_12 : decode cX3_init 12 = .ok (.aload_n 0, 1) := by decide +kernel
theorem dX3_init_13 : decode cX3_init 13 = .ok (.bipush 8, 2) := by decide +kernel
theorem dX3_init_15 : decode cX3_init 15 = .ok (.newarray .int, 2) := by decide +kernel
theorem dX3_init_17 : decode cX3_init 17 = .ok (.putfield 15, 3) := by decide +kernel
theorem dX3_init_20 : decode cX3_init 20 = .ok (.aload_n 0, 1) := by decide +kernel
theorem dX3_init_21 : decode cX3_init 21 = .ok (.bipush 8, 2) := by decide +kernel
theorem dX3_init_23 : decode cX3_init 23 = .ok (.bipush 40, 2) := by decide +kernel
theorem dX3_init_25 : decode cX3_init 25 = .ok (.multianewarray 18 2, 4) := by decide +kernel
theorem dX3_init_29 : decode cX3_init 29 = .ok (.putfield 20, 3) := by decide +kernel
theorem dX3_init_32 : decode cX3_init 32 = .ok (.iconst 0, 1) := by decide +kernel
theorem dX3_init_33 : decode cX3_init 33 = .ok (.istore_n 1, 1) := by decide +kernel
theorem dX3_init_34 : decode cX3_init 34 = .ok (.iload_n 1, 1) := by decide +kernel
theorem dX3_init_35 : decode cX3_init 35 = .ok (.bipush 8, 2) := by decide +kernel
theorem dX3_init_37 : decode cX3_init 37 = .ok (.if_icmp .ge 16, 3) := by decide +kernel
theorem dX3_init_40 : decode cX3_init 40 = .ok (.aload_n 0, 1) := by decide +kernel
theorem dX3_init_41 : decode cX3_init 41 = .ok (.getfield 15, 3) := by decide +kernel
theorem dX3_init_44 : decode cX3_init 44 = .ok (.iload_n 1, 1) := by decide +kernel
theorem dX3_init_45 : decode cX3_init 45 = .ok (.iconst (-1), 1) := by decide +kernel
theorem dX3_init_46 : decode cX3_init 46 = .ok (.iastore, 1) := by decide +kernel
theorem dX3_init_47 : decode cX3_init 47 = .ok (.iinc 1 1, 3) := by decide +kernel
theorem dX3_init_50 : decode cX3_init 50 = .ok (.goto (-16), 3) := by decide +kernel
theorem dX3_init_53 : decode cX3_init 53 = .ok (.return_, 1) := by decide +kernel
theorem dX3_isMissing_0 : decode cX3_isMissing 0 = .ok (.aload_n 0, 1) := by decide +kernel
theorem dX3_isMissing_1 : decode cX3_isMissing 1 = .ok (.getfield 15, 3) := by decide +kernel
theorem dX3_isMissing_4 : decode cX3_isMissing 4 = .ok (.iload_n 1, 1) := by decide +kernel
theorem dX3_isMissing_5 : decode cX3_isMissing 5 = .ok (.iaload, 1) := by decide +kernel
theorem dX3_isMissing_6 : decode cX3_isMissing 6 = .ok (.iconst (-1), 1) := by decide +kernel
theorem dX3_isMissing_7 : decode cX3_isMissing 7 = .ok (.if_icmp .ne 7, 3) := by decide +kernel
theorem dX3_isMissing_10 : decode cX3_isMissing 10 = .ok (.iconst 1, 1) := by decide +kernel
theorem dX3_isMissing_11 : decode cX3_isMissing 11 = .ok (.goto 4, 3) := by decide +kernel
theorem dX3_isMissing_14 : decode cX3_isMissing 14 = .ok (.iconst 0, 1) := by decide +kernel
theorem dX3_isMissing_15 : decode cX3_isMissing 15 = .ok (.ireturn, 1) := by decide +kernel
theorem dX3_many_0 : decode cX3_many 0 = .ok (.iconst 0, 1) := by decide +kernel
theorem dX3_many_1 : decode cX3_many 1 = .ok (.istore_n 1, 1) := by decide +kernel
theorem dX3_many_2 : decode cX3_many 2 = .ok (.iconst 0, 1) := by decide +kernel
theorem dX3_many_3 : decode cX3_many 3 = .ok (.istore_n 2, 1) := by decide +kernel
theorem dX3_many_4 : decode cX3_many 4 = .ok (.iload_n 2, 1) := by decide +kernel
theorem dX3_many_5 : decode cX3_many 5 = .ok (.bipush 8, 2) := by decide +kernel
theorem dX3_many_7 : decode cX3_many 7 = .ok (.if_icmp .ge 20, 3) := by decide +kernel
theorem dX3_many_10 : decode cX3_many 10 = .ok (.aload_n 0, 1) := by decide +kernel
theorem dX3_many_11 : decode cX3_many 11 = .ok (.iload_n 2, 1) := by decide +kernel
theorem dX3_many_12 : decode cX3_many 12 = .ok (.invokevirtual 23, 3) := by decide +kernel
theorem dX3_many_15 : decode cX3_many 15 = .ok (.ifCond .ne 6, 3) := by decide +kernel
theorem dX3_many_18 : decode cX3_many 18 = .ok (.iinc 1 1, 3) := by decide +kernel
theorem dX3_many_21 : decode cX3_many 21 = .ok (.iinc 2 1, 3) := by decide +kernel
theorem dX3_many_24 : decode cX3_many 24 = .ok (.goto (-20), 3) := by decide +kernel
theorem dX3_many_27 : decode cX3_many 27 = .ok (.iload_n 1, 1) := by decide +kernel
theorem dX3_many_28 : decode cX3_many 28 = .ok (.ireturn, 1) := by decide +kernel
theorem dX3_make_0 : decode cX3_make 0 = .ok (.aload_n 0, 1) := by decide +kernel
theorem dX3_make_1 : decode cX3_make 1 = .ok (.getfield 9, 3) := by decide +kernel
theorem dX3_make_4 : decode cX3_make 4 = .ok (.iload_n 1, 1) := by decide +kernel
theorem dX3_make_5 : decode cX3_make 5 = .ok (.iload_n 2, 1) := by decide +kernel
theorem dX3_make_6 : decode cX3_make 6 = .ok (.iastore, 1) := by decide +kernel
theorem dX3_make_7 : decode cX3_make 7 = .ok (.aload_n 0, 1) := by decide +kernel
theorem dX3_make_8 : decode cX3_make 8 = .ok (.getfield 15, 3) := by decide +kernel
theorem dX3_make_11 : decode cX3_make 11 = .ok (.iload_n 1, 1) := by decide +kernel
theorem dX3_make_12 : decode cX3_make 12 = .ok (.iload_n 3, 1) := by decide +kernel
theorem dX3_make_13 : decode cX3_make 13 = .ok (.iastore, 1) := by decide +kernel
theorem dX3_make_14 : decode cX3_make 14 = .ok (.iconst 0, 1) := by decide +kernel
theorem dX3_make_15 : decode cX3_make 15 = .ok (.istore 4, 2) := by decide +kernel
theorem dX3_make_17 : decode cX3_make 17 = .ok (.iload 4, 2) := by decide +kernel
theorem dX3_make_19 : decode cX3_make 19 = .ok (.iload_n 3, 1) := by decide +kernel
theorem dX3_make_20 : decode cX3_make 20 = .ok (.if_icmp .ge 19, 3) := by decide +kernel
theorem dX3_make_23 : decode cX3_make 23 = .ok (.aload_n 0, 1) := by decide +kernel
theorem dX3_make_24 : decode cX3_make 24 = .ok (.getfield 20, 3) := by decide +kernel
theorem dX3_make_27 : decode cX3_make 27 = .ok (.iload_n 1, 1) := by decide +kernel
theorem dX3_make_28 : decode cX3_make 28 = .ok (.aaload, 1) := by decide +kernel
theorem dX3_make_29 : decode cX3_make 29 = .ok (.iload 4, 2) := by decide +kernel
theorem dX3_make_31 : decode cX3_make 31 = .ok (.iconst 0, 1) := by decide +kernel
theorem dX3_make_32 : decode cX3_make 32 = .ok (.iastore, 1) := by decide +kernel
theorem dX3_make_33 : decode cX3_make 33 = .ok (.iinc 4 1, 3) := by decide +kernel
theorem dX3_make_36 : decode cX3_make 36 = .ok (.goto (-19), 3) := by decide +kernel
theorem dX3_make_39 : decode cX3_make 39 = .ok (.return_, 1) := by decide +kernel
theorem dX3_look_0 : decode cX3_look 0 = .ok (.aload_n 0, 1) := by decide +kernel
theorem dX3_look_1 : decode cX3_look 1 = .ok (.iload_n 1, 1) := by decide +kernel
theorem dX3_look_2 : decode cX3_look 2 = .ok (.invokevirtual 23, 3) := by decide +kernel
theorem dX3_look_5 : decode cX3_look 5 = .ok (.ifCond .eq 5, 3) := by decide +kernel
theorem dX3_look_8 : decode cX3_look 8 = .ok (.iconst 1, 1) := by decide +kernel
theorem dX3_look_9 : decode cX3_look 9 = .ok (.ireturn, 1) := by decide +kernel
theorem dX3_look_10 : decode cX3_look 10 = .ok (.iload_n 2, 1) := by decide +kernel
theorem dX3_look_11 : decode cX3_look 11 = .ok (.ifCond .lt 29, 3) := by decide +kernel
theorem dX3_look_14 : decode cX3_look 14 = .ok (.iload_n 3, 1) := by decide +kernel
theorem dX3_look_15 : decode cX3_look 15 = .ok (.ifCond .lt 25, 3) := by decide +kernel
theorem dX3_look_18 : decode cX3_look 18 = .ok (.iload_n 3, 1) := by decide +kernel
theorem dX3_look_19 : decode cX3_look 19 = .ok (.aload_n 0, 1) := by decide +kernel
theorem dX3_look_20 : decode cX3_look 20 = .ok (.getfield 15, 3) := by decide +kernel
theorem dX3_look_23 : decode cX3_look 23 = .ok (.iload_n 1, 1) := by decide +kernel
theorem dX3_look_24 : decode cX3_look 24 = .ok (.iaload, 1) := by decide +kernel
theorem dX3_look_25 : decode cX3_look 25 = .ok (.if_icmp .gt 15, 3) := by decide +kernel
theorem dX3_look_28 : decode cX3_look 28 = .ok (.iload_n 2, 1) := by decide +kernel
theorem dX3_look_29 : decode cX3_look 29 = .ok (.aload_n 0, 1) := by decide +kernel
theorem dX3_look_30 : decode cX3_look 30 = .ok (.getfield 15, 3) := by decide +kernel
theorem dX3_look_33 : decode cX3_look 33 = .ok (.iload_n 1, 1) := by decide +kernel
theorem dX3_look_34 : decode cX3_look 34 = .ok (.iaload, 1) := by decide +kernel
theorem dX3_look_35 : decode cX3_look 35 = .ok (.iload_n 3, 1) := by decide +kernel
theorem dX3_look_36 : decode cX3_look 36 = .ok (.isub, 1) := by decide +kernel
theorem dX3_look_37 : decode cX3_look 37 = .ok (.if_icmp .le 5, 3) := by decide +kernel
theorem dX3_look_40 : decode cX3_look 40 = .ok (.iconst 2, 1) := by decide +kernel
theorem dX3_look_41 : decode cX3_look 41 = .ok (.ireturn, 1) := by decide +kernel
theorem dX3_look_42 : decode cX3_look 42 = .ok (.iconst 0, 1) := by decide +kernel
theorem dX3_look_43 : decode cX3_look 43 = .ok (.ireturn, 1) := by decide +kernel
theorem dX3_put_0 : decode cX3_put 0 = .ok (.iload_n 3, 1) := by decide +kernel
theorem dX3_put_1 : decode cX3_put 1 = .ok (.istore 4, 2) := by decide +kernel
theorem dX3_put_3 : decode cX3_put 3 = .ok (.aload_n 0, 1) := by decide +kernel
theorem dX3_put_4 : decode cX3_put 4 = .ok (.getfield 9, 3) := by decide +kernel
theorem dX3_put_7 : decode cX3_put 7 = .ok (.iload_n 1, 1) := by decide +kernel
theorem dX3_put_8 : decode cX3_put 8 = .ok (.iaload, 1) := by decide +kernel
theorem dX3_put_9 : decode cX3_put 9 = .ok (.ifCond .ne 10, 3) := by decide +kernel
theorem dX3_put_12 : decode cX3_put 12 = .ok (.iload_n 3, 1) := by decide +kernel
theorem dX3_put_13 : decode cX3_put 13 = .ok (.i2b, 1) := by decide +kernel
theorem dX3_put_14 : decode cX3_put 14 = .ok (.istore 4, 2) := by decide +kernel
theorem dX3_put_16 : decode cX3_put 16 = .ok (.goto 17, 3) := by decide +kernel
theorem dX3_put_19 : decode cX3_put 19 = .ok (.aload_n 0, 1) := by decide +kernel
theorem dX3_put_20 : decode cX3_put 20 = .ok (.getfield 9, 3) := by decide +kernel
theorem dX3_put_23 : decode cX3_put 23 = .ok (.iload_n 1, 1) := by decide +kernel
theorem dX3_put_24 : decode cX3_put 24 = .ok (.iaload, 1) := by decide +kernel
theorem dX3_put_25 : decode cX3_put 25 = .ok (.iconst 1, 1) := by decide +kernel
theorem dX3_put_26 : decode cX3_put 26 = .ok (.if_icmp .ne 7, 3) := by decide +kernel
theorem dX3_put_29 : decode cX3_put 29 = .ok (.iload_n 3, 1) := by decide +kernel
theorem dX3_put_30 : decode cX3_put 30 = .ok (.i2s, 1) := by decide +kernel
theorem dX3_put_31 : decode cX3_put 31 = .ok (.istore 4, 2) := by decide +kernel
theorem dX3_put_33 : decode cX3_put 33 = .ok (.aload_n 0, 1) := by decide +kernel
theorem dX3_put_34 : decode cX3_put 34 = .ok (.getfield 20, 3) := by decide +kernel
theorem dX3_put_37 : decode cX3_put 37 = .ok (.iload_n 1, 1) := by decide +kernel
theorem dX3_put_38 : decode cX3_put 38 = .ok (.aaload, 1) := by decide +kernel
theorem dX3_put_39 : decode cX3_put 39 = .ok (.iload_n 2, 1) := by decide +kernel
theorem dX3_put_40 : decode cX3_put 40 = .ok (.iload 4, 2) := by decide +kernel
theorem dX3_put_42 : decode cX3_put 42 = .ok (.iastore, 1) := by decide +kernel
theorem dX3_put_43 : decode cX3_put 43 = .ok (.iload 4, 2) := by decide +kernel
theorem dX3_put_45 : decode cX3_put 45 = .ok (.ireturn, 1) := by decide +kernel
theorem dX4_init_0 : decode cX4_init 0 = .ok (.aload_n 0, 1) := by decide +kernel
theorem dX4_init_1 : decode cX4_init 1 = .ok (.invokespecial 3, 3) := by decide +kernel
theorem dX4_init_4 : decode cX4_init 4 = .ok (.aload_n 0, 1) := by decide +kernel
theorem dX4_init_5 : decode cX4_init 5 = .ok (.bipush 120, 2) := by decide +kernel
theorem dX4_init_7 : decode cX4_init 7 = .ok (.newarray .int, 2) := by decide +kernel
theorem dX4_init_9 : decode cX4_init 9 = .ok (.putfield 9, 3) := by decide +kernel
theorem dX4_init_12 : decode cX4_init 12 = .ok (.return_, 1) := by decide +kernel
theorem dX4_begin_0 : decode cX4_begin 0 = .ok (.aload_n 0, 1) := by decide +kernel
theorem dX4_begin_1 : decode cX4_begin 1 = .ok (.iconst 0, 1) := by decide +kernel
theorem dX4_begin_2 : decode cX4_begin 2 = .ok (.putfield 15, 3) := by decide +kernel
theorem dX4_begin_5 : decode cX4_begin 5 = .ok (.aload_n 0, 1) := by decide +kernel
theorem dX4_begin_6 : decode cX4_begin 6 = .ok (.iconst 0, 1) := by decide +kernel
theorem dX4_begin_7 : decode cX4_begin 7 = .ok (.putfield 19, 3) := by decide +kernel
theorem dX4_begin_10 : decode cX4_begin 10 = .ok (.return_, 1) := by decide +kernel
theorem dX4_goesOn_0 : decode cX4_goesOn 0 = .ok (.aload_n 0, 1) := by decide +kernel
theorem dX4_goesOn_1 : decode cX4_goesOn 1 = .ok (.getfield 19, 3) := by decide +kernel
theorem dX4_goesOn_4 : decode cX4_goesOn 4 = .ok (.ifCond .ne 18, 3) := by decide +kernel
theorem dX4_goesOn_7 : decode cX4_goesOn 7 = .ok (.aload_n 0, 1) := by decide +kernel
theorem dX4_goesOn_8 : decode cX4_goesOn 8 = .ok (.getfield 15, 3) := by decide +kernel
theorem dX4_goesOn_11 : decode cX4_goesOn 11 = .ok (.aload_n 0, 1) := by decide +kernel
theorem dX4_goesOn_12 : decode cX4_goesOn 12 = .ok (.getfield 22, 3) := by decide +kernel
theorem dX4_goesOn_15 : decode cX4_goesOn 15 = .ok (.if_icmp .ge 7, 3) := by decide +kernel
theorem dX4_goesOn_18 : decode cX4_goesOn 18 = .ok (.iconst 1, 1) := by decide +kernel
theorem dX4_goesOn_19 : decode cX4_goesOn 19 = .ok (.goto 4, 3) := by decide +kernel
theorem dX4_goesOn_22 : decode cX4_goesOn 22 = .ok (.iconst 0, 1) := by decide +kernel
theorem dX4_goesOn_23 : decode cX4_goesOn 23 = .ok (.ireturn, 1) := by decide +kernel
theorem dX4_fail_0 : decode cX4_fail 0 = .ok (.aload_n 0, 1) := by decide +kernel
theorem dX4_fail_1 : decode cX4_fail 1 = .ok (.getfield 19, 3) := by decide +kernel
theorem dX4_fail_4 : decode cX4_fail 4 = .ok (.ifCond .ne 13, 3) := by decide +kernel
theorem dX4_fail_7 : decode cX4_fail 7 = .ok (.aload_n 0, 1) := by decide +kernel
theorem dX4_fail_8 : decode cX4_fail 8 = .ok (.iload_n 1, 1) := by decide +kernel
theorem dX4_fail_9 : decode cX4_fail 9 = .ok (.putfield 19, 3) := by decide +kernel
theorem dX4_fail_12 : decode cX4_fail 12 = .ok (.aload_n 0, 1) := by decide +kernel
theorem dX4_fail_13 : decode cX4_fail 13 = .ok (.iload_n 2, 1) := by decide +kernel
theorem dX4_fail_14 : decode cX4_fail 14 = .ok (.putfield 25, 3) := by decide +kernel
theorem dX4_fail_17 : decode cX4_fail 17 = .ok (.return_, 1) := by decide +kernel
theorem dX4_byteAt_0 : decode cX4_byteAt 0 = .ok (.iload_n 1, 1) := by decide +kernel
theorem dX4_byteAt_1 : decode cX4_byteAt 1 = .ok (.ifCond .lt 26, 3) := by decide +kernel
theorem dX4_byteAt_4 : decode cX4_byteAt 4 = .ok (.iload_n 1, 1) := by decide +kernel
theorem dX4_byteAt_5 : decode cX4_byteAt 5 = .ok (.aload_n 0, 1) := by decide +kernel
theorem dX4_byteAt_6 : decode cX4_byteAt 6 = .ok (.getfield 22, 3) := by decide +kernel
theorem dX4_byteAt_9 : decode cX4_byteAt 9 = .ok (.if_icmp .ge 18, 3) := by decide +kernel
theorem dX4_byteAt_12 : decode cX4_byteAt 12 = .ok (.iload_n 1, 1) := by decide +kernel
theorem dX4_byteAt_13 : decode cX4_byteAt 13 = .ok (.bipush 120, 2) := by decide +kernel
theorem dX4_byteAt_15 : decode cX4_byteAt 15 = .ok (.if_icmp .ge 12, 3) := by decide +kernel
theorem dX4_byteAt_18 : decode cX4_byteAt 18 = .ok (.aload_n 0, 1) := by decide +kernel
theorem dX4_byteAt_19 : decode cX4_byteAt 19 = .ok (.getfield 9, 3) := by decide +kernel
theorem dX4_byteAt_22 : decode cX4_byteAt 22 = .ok (.iload_n 1, 1) := by decide +kernel
theorem dX4_byteAt_23 : decode cX4_byteAt 23 = .ok (.iaload, 1) := by decide +kernel
theorem dX4_byteAt_24 : decode cX4_byteAt 24 = .ok (.goto 4, 3) := by decide +kernel
theorem dX4_byteAt_27 : decode cX4_byteAt 27 = .ok (.iconst (-1), 1) := by decide +kernel
theorem dX4_byteAt_28 : decode cX4_byteAt 28 = .ok (.ireturn, 1) := by decide +kernel
theorem dX4_next_0 : decode cX4_next 0 = .ok (.aload_n 0, 1) := by decide +kernel
theorem dX4_next_1 : decode cX4_next 1 = .ok (.aload_n 0, 1) := by decide +kernel
theorem dX4_next_2 : decode cX4_next 2 = .ok (.getfield 15, 3) := by decide +kernel
theorem dX4_next_5 : decode cX4_next 5 = .ok (.invokevirtual 28, 3) := by decide +kernel
theorem dX4_next_8 : decode cX4_next 8 = .ok (.ireturn, 1) := by decide +kernel
theorem dX4_isFigure_0 : decode cX4_isFigure 0 = .ok (.aload_n 0, 1) := by decide +kernel
theorem dX4_isFigure_1 : decode cX4_isFigure 1 = .ok (.iload_n 1, 1) := by decide +kernel
theorem dX4_isFigure_2 : decode cX4_isFigure 2 = .ok (.invokevirtual 28, 3) := by decide +kernel
theorem dX4_isFigure_5 : decode cX4_isFigure 5 = .ok (.bipush 48, 2) := by decide +kernel
theorem dX4_isFigure_7 : decode cX4_isFigure 7 = .ok (.bipush 57, 2) := by decide +kernel
theorem dX4_isFigure_9 : decode cX4_isFigure 9 = .ok (.invokestatic 32, 3) := by decide +kernel
theorem dX4_isFigure_12 : decode cX4_isFigure 12 = .ok (.ireturn, 1) := by decide +kernel
theorem dX4_expect_0 : decode cX4_expect 0 = .ok (.aload_n 0, 1) := by decide +kernel
theorem dX4_expect_1 : decode cX4_expect 1 = .ok (.getfield 19, 3) := by decide +kernel
theorem dX4_expect_4 : decode cX4_expect 4 = .ok (.ifCond .eq 4, 3) := by decide +kernel
theorem dX4_expect_7 : decode cX4_expect 7 = .ok (.return_, 1) := by decide +kernel
theorem dX4_expect_8 : decode cX4_expect 8 = .ok (.aload_n 0, 1) := by decide +kernel
theorem dX4_expect_9 : decode cX4_expect 9 = .ok (.invokevirtual 36, 3) := by decide +kernel
theorem dX4_expect_12 : decode cX4_expect 12 = .ok (.iload_n 1, 1) := by decide +kernel
theorem dX4_expect_13 : decode cX4_expect 13 = .ok (.if_icmp .ne 16, 3) := by decide +kernel
theorem dX4_expect_16 : decode cX4_expect 16 = .ok (.aload_n 0, 1) := by decide +kernel
theorem dX4_expect_17 : decode cX4_expect 17 = .ok (.dup, 1) := by decide +kernel
theorem dX4_expect_18 : decode cX4_expect 18 = .ok (.getfield 15, 3) := by decide +kernel
theorem dX4_expect_21 : decode cX4_expect 21 = .ok (.iconst 1, 1) := by decide +kernel
theorem dX4_expect_22 : decode cX4_expect 22 = .ok (.iadd, 1) := by decide +kernel
theorem dX4_expect_23 : decode cX4_expect 23 = .ok (.putfield 15, 3) := by decide +kernel
theorem dX4_expect_26 : decode cX4_expect 26 = .ok (.goto 12, 3) := by decide +kernel
theorem dX4_expect_29 : decode cX4_expect 29 = .ok (.aload_n 0, 1) := by decide +kernel
theorem dX4_expect_30 : decode cX4_expect 30 = .ok (.iconst 1, 1) := by decide +kernel
theorem dX4_expect_31 : decode cX4_expect 31 = .ok (.aload_n 0, 1) := by decide +kernel
theorem dX4_expect_32 : decode cX4_expect 32 = .ok (.getfield 15, 3) := by decide +kernel
theorem dX4_expect_35 : decode cX4_expect 35 = .ok (.invokevirtual 40, 3) := by decide +kernel
theorem dX4_expect_38 : decode cX4_expect 38 = .ok (.return_, 1) := by decide +kernel
theorem dX4_number_0 : decode cX4_number 0 = .ok (.aload_n 0, 1) := by decide +kernel
theorem dX4_number_1 : decode cX4_number 1 = .ok (.getfield 19, 3) := by decide +kernel
theorem dX4_number_4 : decode cX4_number 4 = .ok (.ifCond .eq 5, 3) := by decide +kernel
theorem dX4_number_7 : decode cX4_number 7 = .ok (.iconst 0, 1) := by decide +kernel
theorem dX4_number_8 : decode cX4_number 8 = .ok (.ireturn, 1) := by decide +kernel
theorem dX4_number_9 : decode cX4_number 9 = .ok (.iconst 0, 1) := by decide +kernel
theorem dX4_number_10 : decode cX4_number 10 = .ok (.istore_n 3, 1) := by decide +kernel
theorem dX4_number_11 : decode cX4_number 11 = .ok (.iconst 0, 1) := by decide +kernel
theorem dX4_number_12 : decode cX4_number 12 = .ok (.istore 4, 2) := by decide +kernel
theorem dX4_number_14 : decode cX4_number 14 = .ok (.iload_n 3, 1) := by decide +kernel
theorem dX4_number_15 : decode cX4_number 15 = .ok (.iconst 3, 1) := by decide +kernel
theorem dX4_number_16 : decode cX4_number 16 = .ok (.if_icmp .ge 43, 3) := by decide +kernel
theorem dX4_number_19 : decode cX4_number 19 = .ok (.aload_n 0, 1) := by decide +kernel
theorem dX4_number_20 : decode cX4_number 20 = .ok (.aload_n 0, 1) := by decide +kernel
theorem dX4_number_21 : decode cX4_number 21 = .ok (.getfield 15, 3) := by decide +kernel
theorem dX4_number_24 : decode cX4_number 24 = .ok (.iload_n 3, 1) := by decide +kernel
theorem dX4_number_25 : decode cX4_number 25 = .ok (.iadd, 1) := by decide +kernel
theorem dX4_number_26 : decode cX4_number 26 = .ok (.invokevirtual 44, 3) := by decide +kernel
theorem dX4_number_29 : decode cX4_number 29 = .ok (.ifCond .eq 30, 3) := by decide +kernel
theorem dX4_number_32 : decode cX4_number 32 = .ok (.bipush 10, 2) := by decide +kernel
theorem dX4_number_34 : decode cX4_number 34 = .ok (.iload 4, 2) := by decide +kernel
theorem dX4_number_36 : decode cX4_number 36 = .ok (.imul, 1) := by decide +kernel
theorem dX4_number_37 : decode cX4_number 37 = .ok (.aload_n 0, 1) := by decide +kernel
theorem dX4_number_38 : decode cX4_number 38 = .ok (.aload_n 0, 1) := by decide +kernel
theorem dX4_number_39 : decode cX4_number 39 = .ok (.getfield 15, 3) := by decide +kernel
theorem dX4_number_42 : decode cX4_number 42 = .ok (.iload_n 3, 1) := by decide +kernel
theorem dX4_number_43 : decode cX4_number 43 = .ok (.iadd, 1) := by decide +kernel
theorem dX4_number_44 : decode cX4_number 44 = .ok (.invokevirtual 28, 3) := by decide +kernel
theorem dX4_number_47 : decode cX4_number 47 = .ok (.iadd, 1) := by decide +kernel
theorem dX4_number_48 : decode cX4_number 48 = .ok (.bipush 48, 2) := by decide +kernel
theorem dX4_number_50 : decode cX4_number 50 = .ok (.isub, 1) := by decide +kernel
theorem dX4_number_51 : decode cX4_number 51 = .ok (.istore 4, 2) := by decide +kernel
theorem dX4_number_53 : decode cX4_number 53 = .ok (.iinc 3 1, 3) := by decide +kernel
theorem dX4_number_56 : decode cX4_number 56 = .ok (.goto (-42), 3) := by decide +kernel
theorem dX4_number_59 : decode cX4_number 59 = .ok (.iload_n 3, 1) := by decide +kernel
theorem dX4_number_60 : decode cX4_number 60 = .ok (.ifCond .eq 8, 3) := by decide +kernel
theorem dX4_number_63 : decode cX4_number 63 = .ok (.iload_n 3, 1) := by decide +kernel
theorem dX4_number_64 : decode cX4_number 64 = .ok (.iconst 2, 1) := by decide +kernel
theorem dX4_number_65 : decode cX4_number 65 = .ok (.if_icmp .le 14, 3) := by decide +kernel
theorem dX4_number_68 : decode cX4_number 68 = .ok (.aload_n 0, 1) := by decide +kernel
theorem dX4_number_69 : decode cX4_number 69 = .ok (.iconst 1, 1) := by decide +kernel
theorem dX4_number_70 : decode cX4_number 70 = .ok (.aload_n 0, 1) := by decide +kernel
theorem dX4_number_71 : decode cX4_number 71 = .ok (.getfield 15, 3) := by decide +kernel
theorem dX4_number_74 : decode cX4_number 74 = .ok (.invokevirtual 40, 3) := by decide +kernel
theorem dX4_number_77 : decode cX4_number 77 = .ok (.iconst 0, 1) := by decide +kernel
theorem dX4_number_78 : decode cX4_number 78 = .ok (.ireturn, 1) := by decide +kernel
theorem dX4_number_79 : decode cX4_number 79 = .ok (.iload 4, 2) := by decide +kernel
theorem dX4_number_81 : decode cX4_number 81 = .ok (.iload_n 1, 1) := by decide +kernel
theorem dX4_number_82 : decode cX4_number 82 = .ok (.iload_n 2, 1) := by decide +kernel
theorem dX4_number_83 : decode cX4_number 83 = .ok (.invokestatic 32, 3) := by decide +kernel
theorem dX4_number_86 : decode cX4_number 86 = .ok (.ifCond .ne 14, 3) := by decide +kernel
theorem dX4_number_89 : decode cX4_number 89 = .ok (.aload_n 0, 1) := by decide +kernel
theorem dX4_number_90 : decode cX4_number 90 = .ok (.iconst 2, 1) := by decide +kernel
theorem dX4_number_91 : decode cX4_number 91 = .ok (.aload_n 0, 1) := by decide +kernel
theorem dX4_number_92 : decode cX4_number 92 = .ok (.getfield 15, 3) := by decide +kernel
theorem dX4_number_95 : decode cX4_number 95 = .ok (.invokevirtual 40, 3) := by decide +kernel
theorem dX4_number_98 : decode cX4_number 98 = .ok (.iconst 0, 1) := by decide +kernel
theorem dX4_number_99 : decode cX4_number 99 = .ok (.ireturn, 1) := by decide +kernel
theorem dX4_number_100 : decode cX4_number 100 = .ok (.aload_n 0, 1) := by decide +kernel
theorem dX4_number_101 : decode cX4_number 101 = .ok (.dup, 1) := by decide +kernel
theorem dX4_number_102 : decode cX4_number 102 = .ok (.getfield 15, 3) := by decide +kernel
theorem dX4_number_105 : decode cX4_number 105 = .ok (.iload_n 3, 1) := by decide +kernel
theorem dX4_number_106 : decode cX4_number 106 = .ok (.iadd, 1) := by decide +kernel
theorem dX4_number_107 : decode cX4_number 107 = .ok (.putfield 15, 3) := by decide +kernel
theorem dX4_number_110 : decode cX4_number 110 = .ok (.iload 4, 2) := by decide +kernel
theorem dX4_number_112 : decode cX4_number 112 = .ok (.ireturn, 1) := by decide +kernel
theorem dX5_init_0 : decode cX5_init 0 = .ok (.aload_n 0, 1) := by decide +kernel
theorem dX5_init_1 : decode cX5_init 1 = .ok (.invokespecial 1, 3) := by decide +kernel
theorem dX5_init_4 : decode cX5_init 4 = .ok (.aload_n 0, 1) := by decide +kernel
theorem dX5_init_5 : decode cX5_init 5 = .ok (.new 7, 3) := by decide +kernel
theorem dX5_init_8 : decode cX5_init 8 = .ok (.dup, 1) := by decide +kernel
theorem dX5_init_9 : decode cX5_init 9 = .ok (.invokespecial 9, 3) := by decide +kernel
theorem dX5_init_12 : decode cX5_init 12 = .ok (.putfield 10, 3) := by decide +kernel
theorem dX5_init_15 : decode cX5_init 15 = .ok (.aload_n 0, 1) := by decide +kernel
theorem dX5_init_16 : decode cX5_init 16 = .ok (.new 16, 3) := by decide +kernel
theorem dX5_init_19 : decode cX5_init 19 = .ok (.dup, 1) := by decide +kernel
theorem dX5_init_20 : decode cX5_init 20 = .ok (.invokespecial 18, 3) := by decide +kernel
theorem dX5_init_23 : decode cX5_init 23 = .ok (.putfield 19, 3) := by decide +kernel
theorem dX5_init_26 : decode cX5_init 26 = .ok (.aload_n 0, 1) := by decide +kernel
theorem dX5_init_27 : decode cX5_init 27 = .ok (.new 23, 3) := by decide +kernel
theorem dX5_init_30 : decode cX5_init 30 = .ok (.dup, 1) := by decide +kernel
theorem dX5_init_31 : decode cX5_init 31 = .ok (.invokespecial 25, 3) := by decide +kernel
theorem dX5_init_34 : decode cX5_init 34 = .ok (.putfield 26, 3) := by decide +kernel
theorem dX5_init_37 : decode cX5_init 37 = .ok (.aload_n 0, 1) := by decide +kernel
theorem dX5_init_38 : decode cX5_init 38 = .ok (.new 30, 3) := by decide +kernel
theorem dX5_init_41 : decode cX5_init 41 = .ok (.dup, 1) := by decide +kernel
theorem dX5_init_42 : decode cX5_init 42 = .ok (.invokespecial 32, 3) := by decide +kernel
theorem dX5_init_45 : decode cX5_init 45 = .ok (.putfield 33, 3) := by decide +kernel
theorem dX5_init_48 : decode cX5_init 48 = .ok (.aload_n 0, 1) := by decide +kernel
theorem dX5_init_49 : decode cX5_init 49 = .ok (.new 37, 3) := by decide +kernel
theorem dX5_init_52 : decode cX5_init 52 = .ok (.dup, 1) := by decide +kernel
theorem dX5_init_53 : decode cX5_init 53 = .ok (.invokespecial 39, 3) := by decide +kernel
theorem dX5_init_56 : decode cX5_init 56 = .ok (.putfield 40, 3) := by decide +kernel
theorem dX5_init_59 : decode cX5_init 59 = .ok (.aload_n 0, 1) := by decide +kernel
theorem dX5_init_60 : decode cX5_init 60 = .ok (.new 30, 3) := by decide +kernel
theorem dX5_init_63 : decode cX5_init 63 = .ok (.dup, 1) := by decide +kernel
theorem dX5_init_64 : decode cX5_init 64 = .ok (.invokespecial 32, 3) := by decide +kernel
theorem dX5_init_67 : decode cX5_init 67 = .ok (.putfield 44, 3) := by decide +kernel
theorem dX5_init_70 : decode cX5_init 70 = .ok (.aload_n 0, 1) := by decide +kernel
theorem dX5_init_71 : decode cX5_init 71 = .ok (.new 23, 3) := by decide +kernel
theorem dX5_init_74 : decode cX5_init 74 = .ok (.dup, 1) := by decide +kernel
theorem dX5_init_75 : decode cX5_init 75 = .ok (.invokespecial 25, 3) := by decide +kernel
theorem dX5_init_78 : decode cX5_init 78 = .ok (.putfield 47, 3) := by decide +kernel
theorem dX5_init_81 : decode cX5_init 81 = .ok (.aload_n 0, 1) := by decide +kernel
theorem dX5_init_82 : decode cX5_init 82 = .ok (.new 30, 3) := by decide +kernel
theorem dX5_init_85 : decode cX5_init 85 = .ok (.dup, 1) := by decide +kernel
theorem dX5_init_86 : decode cX5_init 86 = .ok (.invokespecial 32, 3) := by decide +kernel
theorem dX5_init_89 : decode cX5_init 89 = .ok (.putfield 50, 3) := by decide +kernel
theorem dX5_init_92 : decode cX5_init 92 = .ok (.aload_n 0, 1) := by decide +kernel
theorem dX5_init_93 : decode cX5_init 93 = .ok (.iconst 2, 1) := by decide +kernel
theorem dX5_init_94 : decode cX5_init 94 = .ok (.anewarray 23, 3) := by decide +kernel
theorem dX5_init_97 : decode cX5_init 97 = .ok (.putfield 53, 3) := by decide +kernel
theorem dX5_init_100 : decode cX5_init 100 = .ok (.aload_n 0, 1) := by decide +kernel
theorem dX5_init_101 : decode cX5_init 101 = .ok (.iconst 2, 1) := by decide +kernel
theorem dX5_init_102 : decode cX5_init 102 = .ok (.anewarray 30, 3) := by decide +kernel
theorem dX5_init_105 : decode cX5_init 105 = .ok (.putfield 57, 3) := by decide +kernel
theorem dX5_init_108 : decode cX5_init 108 = .ok (.aload_n 0, 1) := by decide +kernel
theorem dX5_init_109 : decode cX5_init 109 = .ok (.bipush 101, 2) := by decide +kernel
theorem dX5_init_111 : decode cX5_init 111 = .ok (.newarray .long, 2) := by decide +kernel
theorem dX5_init_113 : decode cX5_init 113 = .ok (.putfield 61, 3) := by decide +kernel
theorem dX5_init_116 : decode cX5_init 116 = .ok (.aload_n 0, 1) := by decide +kernel
theorem dX5_init_117 : decode cX5_init 117 = .ok (.bipush 16, 2) := by decide +kernel
theorem dX5_init_119 : decode cX5_init 119 = .ok (.newarray .int, 2) := by decide +kernel
theorem dX5_init_121 : decode cX5_init 121 = .ok (.putfield 65, 3) := by decide +kernel
theorem dX5_init_124 : decode cX5_init 124 = .ok (.iconst 0, 1) := by decide +kernel
theorem dX5_init_125 : decode cX5_init 125 = .ok (.istore_n 1, 1) := by decide +kernel
theorem dX5_init_126 : decode cX5_init 126 = .ok (.iload_n 1, 1) := by decide +kernel
theorem dX5_init_127 : decode cX5_init 127 = .ok (.iconst 2, 1) := by decide +kernel
theorem dX5_init_128 : decode cX5_init 128 = .ok (.if_icmp .ge 35, 3) := by decide +kernel
theorem dX5_init_131 : decode cX5_init 131 = .ok (.aload_n 0, 1) := by decide +kernel
theorem dX5_init_132 : decode cX5_init 132 = .ok (.getfield 53, 3) := by decide +kernel
theorem dX5_init_135 : decode cX5_init 135 = .ok (.iload_n 1, 1) := by decide +kernel
theorem dX5_init_136 : decode cX5_init 136 = .ok (.new 23, 3) := by decide +kernel
theorem dX5_init_139 : decode cX5_init 139 = .ok (.dup, 1) := by decide +kernel
theorem dX5_init_140 : decode cX5_init 140 = .ok (.invokespecial 25, 3) := by decide +kernel
theorem dX5_init_143 : decode cX5_init 143 = .ok (.aastore, 1) := by decide +kernel
theorem dX5_init_144 : decode cX5_init 144 = .ok (.aload_n 0, 1) := by decide +kernel
theorem dX5_init_145 : decode cX5_init 145 = .ok (.getfield 57, 3) := by decide +kernel
theorem dX5_init_148 : decode cX5_init 148 = .ok (.iload_n 1, 1) := by decide +kernel
theorem dX5_init_149 : decode cX5_init 149 = .ok (.new 30, 3) := by decide +kernel
theorem dX5_init_152 : decode cX5_init 152 = .ok (.dup, 1) := by decide +kernel
theorem dX5_init_153 : decode cX5_init 153 = .ok (.invokespecial 32, 3) := by decide +kernel
theorem dX5_init_156 : decode cX5_init 156 = .ok (.aastore, 1) := by decide +kernel
theorem dX5_init_157 : decode cX5_init 157 = .ok (.iinc 1 1, 3) := by decide +kernel
theorem dX5_init_160 : decode cX5_init 160 = .ok (.goto (-34), 3) := by decide +kernel
theorem dX5_init_163 : decode cX5_init 163 = .ok (.return_, 1) := by decide +kernel
theorem dX5_row_0 : decode cX5_row 0 = .ok (.iload_n 1, 1) := by decide +kernel
theorem dX5_row_1 : decode cX5_row 1 = .ok (.invokestatic 69, 3) := by decide +kernel
theorem dX5_row_4 : decode cX5_row 4 = .ok (.ifCond .eq 18, 3) := by decide +kernel
theorem dX5_row_7 : decode cX5_row 7 = .ok (.iload_n 2, 1) := by decide +kernel
theorem dX5_row_8 : decode cX5_row 8 = .ok (.iconst 0, 1) := by decide +kernel
theorem dX5_row_9 : decode cX5_row 9 = .ok (.iconst 2, 1) := by decide +kernel
theorem dX5_row_10 : decode cX5_row 10 = .ok (.invokestatic 73, 3) := by decide +kernel
theorem dX5_row_13 : decode cX5_row 13 = .ok (.ifCond .eq 9, 3) := by decide +kernel
theorem dX5_row_16 : decode cX5_row 16 = .ok (.iload_n 3, 1) := by decide +kernel
theorem dX5_row_17 : decode cX5_row 17 = .ok (.bipush 40, 2) := by decide +kernel
theorem dX5_row_19 : decode cX5_row 19 = .ok (.if_icmp .le 6, 3) := by decide +kernel
theorem dX5_row_22 : decode cX5_row 22 = .ok (.ldc 77, 2) := by decide +kernel
theorem dX5_row_24 : decode cX5_row 24 = .ok (.ireturn, 1) := by decide +kernel
theorem dX5_row_25 : decode cX5_row 25 = .ok (.iload_n 3, 1) := by decide +kernel
theorem dX5_row_26 : decode cX5_row 26 = .ok (.ifCond .ge 9, 3) := by decide +kernel
theorem dX5_row_29 : decode cX5_row 29 = .ok (.aload_n 0, 1) := by decide +kernel
theorem dX5_row_30 : decode cX5_row 30 = .ok (.iconst 4, 1) := by decide +kernel
theorem dX5_row_31 : decode cX5_row 31 = .ok (.invokevirtual 78, 3) := by decide +kernel
theorem dX5_row_34 : decode cX5_row 34 = .ok (.ireturn, 1) := by decide +kernel
theorem dX5_row_35 : decode cX5_row 35 = .ok (.aload_n 0, 1) := by decide +kernel
theorem dX5_row_36 : decode cX5_row 36 = .ok (.getfield 10, 3) := by decide +kernel
theorem dX5_row_39 : decode cX5_row 39 = .ok (.iload_n 1, 1) := by decide +kernel
theorem dX5_row_40 : decode cX5_row 40 = .ok (.iload_n 2, 1) := by decide +kernel
theorem dX5_row_41 : decode cX5_row 41 = .ok (.iload_n 3, 1) := by decide +kernel
theorem dX5_row_42 : decode cX5_row 42 = .ok (.invokevirtual 82, 3) := by decide +kernel
theorem dX5_row_45 : decode cX5_row 45 = .ok (.aload_n 0, 1) := by decide +kernel
theorem dX5_row_46 : decode cX5_row 46 = .ok (.iload_n 3, 1) := by decide +kernel
theorem dX5_row_47 : decode cX5_row 47 = .ok (.invokevirtual 86, 3) := by decide +kernel
theorem dX5_row_50 : decode cX5_row 50 = .ok (.ireturn, 1) := by decide +kernel
theorem dX5_set_0 : decode cX5_set 0 = .ok (.iload_n 1, 1) := by decide +kernel
theorem dX5_set_1 : decode cX5_set 1 = .ok (.invokestatic 69, 3) := by decide +kernel
theorem dX5_set_4 : decode cX5_set 4 = .ok (.ifCond .ne 6, 3) := by decide +kernel
theorem dX5_set_7 : decode cX5_set 7 = .ok (.ldc 77, 2) := by decide +kernel
theorem dX5_set_9 : decode cX5_set 9 = .ok (.ireturn, 1) := by decide +kernel
theorem dX5_set_10 : decode cX5_set 10 = .ok (.aload_n 0, 1) := by decide +kernel
theorem dX5_set_11 : decode cX5_set 11 = .ok (.getfield 10, 3) := by decide +kernel
theorem dX5_set_14 : decode cX5_set 14 = .ok (.iload_n 1, 1) := by decide +kernel
theorem dX5_set_15 : decode cX5_set 15 = .ok (.iload_n 2, 1) := by decide +kernel
theorem dX5_set_16 : decode cX5_set 16 = .ok (.iconst 1, 1) := by decide +kernel
theorem dX5_set_17 : decode cX5_set 17 = .ok (.invokevirtual 89, 3) := by decide +kernel
theorem dX5_set_20 : decode cX5_set 20 = .ok (.istore 4, 2) := by decide +kernel
theorem dX5_set_22 : decode cX5_set 22 = .ok (.iload 4, 2) := by decide +kernel
theorem dX5_set_24 : decode cX5_set 24 = .ok (.ifCond .eq 10, 3) := by decide +kernel
theorem dX5_set_27 : decode cX5_set 27 = .ok (.aload_n 0, 1) := by decide +kernel
theorem dX5_set_28 : decode cX5_set 28 = .ok (.iload 4, 2) := by decide +kernel
theorem dX5_set_30 : decode cX5_set 30 = .ok (.invokevirtual 78, 3) := by decide +kernel
theorem dX5_set_33 : decode cX5_set 33 = .ok (.ireturn, 1) := by decide +kernel
theorem dX5_set_34 : decode cX5_set 34 = .ok (.aload_n 0, 1) := by decide +kernel
theorem dX5_set_35 : decode cX5_set 35 = .ok (.aload_n 0, 1) := by decide +kernel
theorem dX5_set_36 : decode cX5_set 36 = .ok (.getfield 10, 3) := by decide +kernel
theorem dX5_set_39 : decode cX5_set 39 = .ok (.iload_n 1, 1) := by decide +kernel
theorem dX5_set_40 : decode cX5_set 40 = .ok (.iload_n 2, 1) := by decide +kernel
theorem dX5_set_41 : decode cX5_set 41 = .ok (.iload_n 3, 1) := by decide +kernel
theorem dX5_set_42 : decode cX5_set 42 = .ok (.invokevirtual 93, 3) := by decide +kernel
theorem dX5_set_45 : decode cX5_set 45 = .ok (.invokevirtual 86, 3) := by decide +kernel
theorem dX5_set_48 : decode cX5_set 48 = .ok (.ireturn, 1) := by decide +kernel
theorem dX5_copy_0 : decode cX5_copy 0 = .ok (.iload_n 1, 1) := by decide +kernel
theorem dX5_copy_1 : decode cX5_copy 1 = .ok (.invokestatic 69, 3) := by decide +kernel
theorem dX5_copy_4 : decode cX5_copy 4 = .ok (.ifCond .eq 10, 3) := by decide +kernel
theorem dX5_copy_7 : decode cX5_copy 7 = .ok (.iload_n 3, 1) := by decide +kernel
theorem dX5_copy_8 : decode cX5_copy 8 = .ok (.invokestatic 69, 3) := by decide +kernel
theorem dX5_copy_11 : decode cX5_copy 11 = .ok (.ifCond .ne 6, 3) := by decide +kernel
theorem dX5_copy_14 : decode cX5_copy 14 = .ok (.ldc 77, 2) := by decide +kernel
theorem dX5_copy_16 : decode cX5_copy 16 = .ok (.ireturn, 1) := by decide +kernel
theorem dX5_copy_17 : decode cX5_copy 17 = .ok (.aload_n 0, 1) := by decide +kernel
theorem dX5_copy_18 : decode cX5_copy 18 = .ok (.getfield 10, 3) := by decide +kernel
theorem dX5_copy_21 : decode cX5_copy 21 = .ok (.iload_n 1, 1) := by decide +kernel
theorem dX5_copy_22 : decode cX5_copy 22 = .ok (.invokevirtual 96, 3) := by decide +kernel
theorem dX5_copy_25 : decode cX5_copy 25 = .ok (.ifCond .ne 14, 3) := by decide +kernel
theorem dX5_copy_28 : decode cX5_copy 28 = .ok (.aload_n 0, 1) := by decide +kernel
theorem dX5_copy_29 : decode cX5_copy 29 = .ok (.getfield 10, 3) := by decide +kernel
theorem dX5_copy_32 : decode cX5_copy 32 = .ok (.iload_n 3, 1) := by decide +kernel
theorem dX5_copy_33 : decode cX5_copy 33 = .ok (.invokevirtual 96, 3) := by decide +kernel
theorem dX5_copy_36 : decode cX5_copy 36 = .ok (.ifCond .eq 9, 3) := by decide +kernel
theorem dX5_copy_39 : decode cX5_copy 39 = .ok (.aload_n 0, 1) := by decide +kernel
theorem dX5_copy_40 : decode cX5_copy 40 = .ok (.iconst 1, 1) := by decide +kernel
theorem dX5_copy_41 : decode cX5_copy 41 = .ok (.invokevirtual 78, 3) := by decide +kernel
theorem dX5_copy_44 : decode cX5_copy 44 = .ok (.ireturn, 1) := by decide +kernel
theorem dX5_copy_45 : decode cX5_copy 45 = .ok (.aload_n 0, 1) := by decide +kernel
theorem dX5_copy_46 : decode cX5_copy 46 = .ok (.getfield 10, 3) := by decide +kernel
theorem dX5_copy_49 : decode cX5_copy 49 = .ok (.getfield 99, 3) := by decide +kernel
theorem dX5_copy_52 : decode cX5_copy 52 = .ok (.iload_n 1, 1) := by decide +kernel
theorem dX5_copy_53 : decode cX5_copy 53 = .ok (.iaload, 1) := by decide +kernel
theorem dX5_copy_54 : decode cX5_copy 54 = .ok (.aload_n 0, 1) := by decide +kernel
theorem dX5_copy_55 : decode cX5_copy 55 = .ok (.getfield 10, 3) := by decide +kernel
theorem dX5_copy_58 : decode cX5_copy 58 = .ok (.getfield 99, 3) := by decide +kernel
theorem dX5_copy_61 : decode cX5_copy 61 = .ok (.iload_n 3, 1) := by decide +kernel
theorem dX5_copy_62 : decode cX5_copy 62 = .ok (.iaload, 1) := by decide +kernel
theorem dX5_copy_63 : decode cX5_copy 63 = .ok (.if_icmp .eq 9, 3) := by decide +kernel
theorem dX5_copy_66 : decode cX5_copy 66 = .ok (.aload_n 0, 1) := by decide +kernel
theorem dX5_copy_67 : decode cX5_copy 67 = .ok (.iconst 5, 1) := by decide +kernel
theorem dX5_copy_68 : decode cX5_copy 68 = .ok (.invokevirtual 78, 3) := by decide +kernel
theorem dX5_copy_71 : decode cX5_copy 71 = .ok (.ireturn, 1) := by decide +kernel
theorem dX5_copy_72 : decode cX5_copy 72 = .ok (.aload_n 0, 1) := by decide +kernel
theorem dX5_copy_73 : decode cX5_copy 73 = .ok (.getfield 10, 3) := by decide +kernel
theorem dX5_copy_76 : decode cX5_copy 76 = .ok (.iload_n 1, 1) := by decide +kernel
theorem dX5_copy_77 : decode cX5_copy 77 = .ok (.iload_n 2, 1) := by decide +kernel
theorem dX5_copy_78 : decode cX5_copy 78 = .ok (.iload 5, 2) := by decide +kernel
theorem dX5_copy_80 : decode cX5_copy 80 = .ok (.invokevirtual 89, 3) := by decide +kernel
theorem dX5_copy_83 : decode cX5_copy 83 = .ok (.ifCond .ne 18, 3) := by decide +kernel
theorem dX5_copy_86 : decode cX5_copy 86 = .ok (.aload_n 0, 1) := by decide +kernel
theorem dX5_copy_87 : decode cX5_copy 87 = .ok (.getfield 10, 3) := by decide +kernel
theorem dX5_copy_90 : decode cX5_copy 90 = .ok (.iload_n 3, 1) := by decide +kernel
theorem dX5_copy_91 : decode cX5_copy 91 = .ok (.iload 4, 2) := by decide +kernel
theorem dX5_copy_93 : decode cX5_copy 93 = .ok (.iload 5, 2) := by decide +kernel
theorem dX5_copy_95 : decode cX5_copy 95 = .ok (.invokevirtual 89, 3) := by decide +kernel
theorem dX5_copy_98 : decode cX5_copy 98 = .ok (.ifCond .eq 9, 3) := by decide +kernel
theorem dX5_copy_101 : decode cX5_copy 101 = .ok (.aload_n 0, 1) := by decide +kernel
theorem dX5_copy_102 : decode cX5_copy 102 = .ok (.iconst 2, 1) := by decide +kernel
theorem dX5_copy_103 : decode cX5_copy 103 = .ok (.invokevirtual 78, 3) := by decide +kernel
theorem dX5_copy_106 : decode cX5_copy 106 = .ok (.ireturn, 1) := by decide +kernel
theorem dX5_copy_107 : decode cX5_copy 107 = .ok (.aload_n 0, 1) := by decide +kernel
theorem dX5_copy_108 : decode cX5_copy 108 = .ok (.getfield 10, 3) := by decide +kernel
theorem dX5_copy_111 : decode cX5_copy 111 = .ok (.getfield 102, 3) := by decide +kernel
theorem dX5_copy_114 : decode cX5_copy 114 = .ok (.iload_n 1, 1) := by decide +kernel
theorem dX5_copy_115 : decode cX5_copy 115 = .ok (.aaload, 1) := by decide +kernel
theorem dX5_copy_116 : decode cX5_copy 116 = .ok (.iload_n 2, 1) := by decide +kernel
theorem dX5_copy_117 : decode cX5_copy 117 = .ok (.aload_n 0, 1) := by decide +kernel
theorem dX5_copy_118 : decode cX5_copy 118 = .ok (.getfield 10, 3) := by decide +kernel
theorem dX5_copy_121 : decode cX5_copy 121 = .ok (.getfield 102, 3) := by decide +kernel
theorem dX5_copy_124 : decode cX5_copy 124 = .ok (.iload_n 3, 1) := by decide +kernel
theorem dX5_copy_125 : decode cX5_copy 125 = .ok (.aaload, 1) := by decide +kernel
theorem dX5_copy_126 : decode cX5_copy 126 = .ok (.iload 4, 2) := by decide +kernel
theorem dX5_copy_128 : decode cX5_copy 128 = .ok (.iload 5, 2) := by decide +kernel
theorem dX5_copy_130 : decode cX5_copy 130 = .ok (.invokestatic 106, 3) := by decide +kernel
theorem dX5_copy_133 : decode cX5_copy 133 = .ok (.aload_n 0, 1) := by decide +kernel
theorem dX5_copy_134 : decode cX5_copy 134 = .ok (.iload 5, 2) := by decide +kernel
theorem dX5_copy_136 : decode cX5_copy 136 = .ok (.invokevirtual 86, 3) := by decide +kernel
theorem dX5_copy_139 : decode cX5_copy 139 = .ok (.ireturn, 1) := by decide +kernel
theorem dX5_drop_0 : decode cX5_drop 0 = .ok (.iload_n 1, 1) := by decide +kernel
theorem dX5_drop_1 : decode cX5_drop 1 = .ok (.invokestatic 69, 3) := by decide +kernel
theorem dX5_drop_4 : decode cX5_drop 4 = .ok (.ifCond .ne 6, 3) := by decide +kernel
theorem dX5_drop_7 : decode cX5_drop 7 = .ok (.ldc 77, 2) := by decide +kernel
theorem dX5_drop_9 : decode cX5_drop 9 = .ok (.ireturn, 1) := by decide +kernel
theorem dX5_drop_10 : decode cX5_drop 10 = .ok (.aload_n 0, 1) := by decide +kernel
theorem dX5_drop_11 : decode cX5_drop 11 = .ok (.getfield 10, 3) := by decide +kernel
theorem dX5_drop_14 : decode cX5_drop 14 = .ok (.iload_n 1, 1) := by decide +kernel
theorem dX5_drop_15 : decode cX5_drop 15 = .ok (.invokevirtual 96, 3) := by decide +kernel
theorem dX5_drop_18 : decode cX5_drop 18 = .ok (.ifCond .eq 9, 3) := by decide +kernel
theorem dX5_drop_21 : decode cX5_drop 21 = .ok (.aload_n 0, 1) := by decide +kernel
theorem dX5_drop_22 : decode cX5_drop 22 = .ok (.iconst 1, 1) := by decide +kernel
theorem dX5_drop_23 : decode cX5_drop 23 = .ok (.invokevirtual 78, 3) := by decide +kernel
theorem dX5_drop_26 : decode cX5_drop 26 = .ok (.ireturn, 1) := by decide +kernel
theorem dX5_drop_27 : decode cX5_drop 27 = .ok (.aload_n 0, 1) := by decide +kernel
theorem dX5_drop_28 : decode cX5_drop 28 = .ok (.getfield 10, 3) := by decide +kernel
theorem dX5_drop_31 : decode cX5_drop 31 = .ok (.getfield 112, 3) := by decide +kernel
theorem dX5_drop_34 : decode cX5_drop 34 = .ok (.iload_n 1, 1) := by decide +kernel
theorem dX5_drop_35 : decode cX5_drop 35 = .ok (.iaload, 1) := by decide +kernel
theorem dX5_drop_36 : decode cX5_drop 36 = .ok (.istore_n 2, 1) := by decide +kernel
theorem dX5_drop_37 : decode cX5_drop 37 = .ok (.aload_n 0, 1) := by decide +kernel
theorem dX5_drop_38 : decode cX5_drop 38 = .ok (.getfield 10, 3) := by decide +kernel
theorem dX5_drop_41 : decode cX5_drop 41 = .ok (.getfield 112, 3) := by decide +kernel
theorem dX5_drop_44 : decode cX5_drop 44 = .ok (.iload_n 1, 1) := by decide +kernel
theorem dX5_drop_45 : decode cX5_drop 45 = .ok (.iconst (-1), 1) := by decide +kernel
theorem dX5_drop_46 : decode cX5_drop 46 = .ok (.iastore, 1) := by decide +kernel
theorem dX5_drop_47 : decode cX5_drop 47 = .ok (.aload_n 0, 1) := by decide +kernel
theorem dX5_drop_48 : decode cX5_drop 48 = .ok (.iload_n 2, 1) := by decide +kernel
theorem dX5_drop_49 : decode cX5_drop 49 = .ok (.invokevirtual 86, 3) := by decide +kernel
theorem dX5_drop_52 : decode cX5_drop 52 = .ok (.ireturn, 1) := by decide +kernel
theorem dX5_feed_0 : decode cX5_feed 0 = .ok (.iload_n 1, 1) := by decide +kernel
theorem dX5_feed_1 : decode cX5_feed 1 = .ok (.iconst 0, 1) := by decide +kernel
theorem dX5_feed_2 : decode cX5_feed 2 = .ok (.sipush 255, 3) := by decide +kernel
theorem dX5_feed_5 : decode cX5_feed 5 = .ok (.invokestatic 73, 3) := by decide +kernel
theorem dX5_feed_8 : decode cX5_feed 8 = .ok (.ifCond .ne 6, 3) := by decide +kernel
theorem dX5_feed_11 : decode cX5_feed 11 = .ok (.ldc 77, 2) := by decide +kernel
theorem dX5_feed_13 : decode cX5_feed 13 = .ok (.ireturn, 1) := by decide +kernel
theorem dX5_feed_14 : decode cX5_feed 14 = .ok (.aload_n 0, 1) := by decide +kernel
theorem dX5_feed_15 : decode cX5_feed 15 = .ok (.getfield 19, 3) := by decide +kernel
theorem dX5_feed_18 : decode cX5_feed 18 = .ok (.getfield 115, 3) := by decide +kernel
theorem dX5_feed_21 : decode cX5_feed 21 = .ok (.bipush 120, 2) := by decide +kernel
theorem dX5_feed_23 : decode cX5_feed 23 = .ok (.if_icmp .lt 6, 3) := by decide +kernel
theorem dX5_feed_26 : decode cX5_feed 26 = .ok (.ldc 119, 2) := by decide +kernel
theorem dX5_feed_28 : decode cX5_feed 28 = .ok (.ireturn, 1) := by decide +kernel
theorem dX5_feed_29 : decode cX5_feed 29 = .ok (.aload_n 0, 1) := by decide +kernel
theorem dX5_feed_30 : decode cX5_feed 30 = .ok (.getfield 19, 3) := by decide +kernel
theorem dX5_feed_33 : decode cX5_feed 33 = .ok (.getfield 120, 3) := by decide +kernel
theorem dX5_feed_36 : decode cX5_feed 36 = .ok (.aload_n 0, 1) := by decide +kernel
theorem dX5_feed_37 : decode cX5_feed 37 = .ok (.getfield 19, 3) := by decide +kernel
theorem dX5_feed_40 : decode cX5_feed 40 = .ok (.getfield 115, 3) := by decide +kernel
theorem dX5_feed_43 : decode cX5_feed 43 = .ok (.iload_n 1, 1) := by decide +kernel
theorem dX5_feed_44 : decode cX5_feed 44 = .ok (.iastore, 1) := by decide +kernel
theorem dX5_feed_45 : decode cX5_feed 45 = .ok (.aload_n 0, 1) := by decide +kernel
theorem dX5_feed_46 : decode cX5_feed 46 = .ok (.getfield 19, 3) := by decide +kernel
theorem dX5_feed_49 : decode cX5_feed 49 = .ok (.dup, 1) := by decide +kernel
theorem dX5_feed_50 : decode cX5_feed 50 = .ok (.getfield 115, 3) := by decide +kernel
theorem dX5_feed_53 : decode cX5_feed 53 = .ok (.iconst 1, 1) := by decide +kernel
theorem dX5_feed_54 : decode cX5_feed 54 = .ok (.iadd, 1) := by decide +kernel
theorem dX5_feed_55 : decode cX5_feed 55 = .ok (.putfield 115, 3) := by decide +kernel
theorem dX5_feed_58 : decode cX5_feed 58 = .ok (.aload_n 0, 1) := by decide +kernel
theorem dX5_feed_59 : decode cX5_feed 59 = .ok (.getfield 19, 3) := by decide +kernel
theorem dX5_feed_62 : decode cX5_feed 62 = .ok (.getfield 115, 3) := by decide +kernel
theorem dX5_feed_65 : decode cX5_feed 65 = .ok (.ireturn, 1) := by decide +kernel
theorem dX5_land_0 : decode cX5_land 0 = .ok (.aload_n 0, 1) := by decide +kernel
theorem dX5_land_1 : decode cX5_land 1 = .ok (.invokevirtual 123, 3) := by decide +kernel
theorem dX5_land_4 : decode cX5_land 4 = .ok (.aload_n 0, 1) := by decide +kernel
theorem dX5_land_5 : decode cX5_land 5 = .ok (.getfield 19, 3) := by decide +kernel
theorem dX5_land_8 : decode cX5_land 8 = .ok (.iconst 0, 1) := by decide +kernel
theorem dX5_land_9 : decode cX5_land 9 = .ok (.putfield 115, 3) := by decide +kernel
theorem dX5_land_12 : decode cX5_land 12 = .ok (.aload_n 0, 1) := by decide +kernel
theorem dX5_land_13 : decode cX5_land 13 = .ok (.getfield 19, 3) := by decide +kernel
theorem dX5_land_16 : decode cX5_land 16 = .ok (.getfield 126, 3) := by decide +kernel
theorem dX5_land_19 : decode cX5_land 19 = .ok (.ifCond .eq 25, 3) := by decide +kernel
theorem dX5_land_22 : decode cX5_land 22 = .ok (.aload_n 0, 1) := by decide +kernel
theorem dX5_land_23 : decode cX5_land 23 = .ok (.aload_n 0, 1) := by decide +kernel
theorem dX5_land_24 : decode cX5_land 24 = .ok (.getfield 19, 3) := by decide +kernel
theorem dX5_land_27 : decode cX5_land 27 = .ok (.getfield 126, 3) := by decide +kernel
theorem dX5_land_30 : decode cX5_land 30 = .ok (.putfield 129, 3) := by decide +kernel
theorem dX5_land_33 : decode cX5_land 33 = .ok (.ldc 132, 2) := by decide +kernel
theorem dX5_land_35 : decode cX5_land 35 = .ok (.aload_n 0, 1) := by decide +kernel
theorem dX5_land_36 : decode cX5_land 36 = .ok (.getfield 19, 3) := by decide +kernel
theorem dX5_land_39 : decode cX5_land 39 = .ok (.getfield 133, 3) := by decide +kernel
theorem dX5_land_42 : decode cX5_land 42 = .ok (.isub, 1) := by decide +kernel
theorem dX5_land_43 : decode cX5_land 43 = .ok (.ireturn, 1) := by decide +kernel
theorem dX5_land_44 : decode cX5_land 44 = .ok (.aload_n 0, 1) := by decide +kernel
theorem dX5_land_45 : decode cX5_land 45 = .ok (.getfield 26, 3) := by decide +kernel
theorem dX5_land_48 : decode cX5_land 48 = .ok (.aload_n 0, 1) := by decide +kernel
theorem dX5_land_49 : decode cX5_land 49 = .ok (.getfield 47, 3) := by decide +kernel
theorem dX5_land_52 : decode cX5_land 52 = .ok (.invokevirtual 136, 3) := by decide +kernel
theorem dX5_land_55 : decode cX5_land 55 = .ok (.aload_n 0, 1) := by decide +kernel
theorem dX5_land_56 : decode cX5_land 56 = .ok (.getfield 33, 3) := by decide +kernel
theorem dX5_land_59 : decode cX5_land 59 = .ok (.aload_n 0, 1) := by decide +kernel
theorem dX5_land_60 : decode cX5_land 60 = .ok (.getfield 50, 3) := by decide +kernel
theorem dX5_land_63 : decode cX5_land 63 = .ok (.invokevirtual 140, 3) := by decide +kernel
theorem dX5_land_66 : decode cX5_land 66 = .ok (.aload_n 0, 1) := by decide +kernel
theorem dX5_land_67 : decode cX5_land 67 = .ok (.getfield 40, 3) := by decide +kernel
theorem dX5_land_70 : decode cX5_land 70 = .ok (.invokevirtual 143, 3) := by decide +kernel
theorem dX5_land_73 : decode cX5_land 73 = .ok (.aload_n 0, 1) := by decide +kernel
theorem dX5_land_74 : decode cX5_land 74 = .ok (.getfield 26, 3) := by decide +kernel
theorem dX5_land_77 : decode cX5_land 77 = .ok (.getfield 146, 3) := by decide +kernel
theorem dX5_land_80 : decode cX5_land 80 = .ok (.ireturn, 1) := by decide +kernel
theorem dX5_fault_0 : decode cX5_fault 0 = .ok (.aload_n 0, 1) := by decide +kernel
theorem dX5_fault_1 : decode cX5_fault 1 = .ok (.getfield 129, 3) := by decide +kernel
theorem dX5_fault_4 : decode cX5_fault 4 = .ok (.ireturn, 1) := by decide +kernel
theorem dX5_undo_0 : decode cX5_undo 0 = .ok (.aload_n 0, 1) := by decide +kernel
theorem dX5_undo_1 : decode cX5_undo 1 = .ok (.getfield 40, 3) := by decide +kernel
theorem dX5_undo_4 : decode cX5_undo 4 = .ok (.getfield 149, 3) := by decide +kernel
theorem dX5_undo_7 : decode cX5_undo 7 = .ok (.ifCond .ne 6, 3) := by decide +kernel
theorem dX5_undo_10 : decode cX5_undo 10 = .ok (.ldc 152, 2) := by decide +kernel
theorem dX5_undo_12 : decode cX5_undo 12 = .ok (.ireturn, 1) := by decide +kernel
theorem dX5_undo_13 : decode cX5_undo 13 = .ok (.aload_n 0, 1) := by decide +kernel
theorem dX5_undo_14 : decode cX5_undo 14 = .ok (.getfield 40, 3) := by decide +kernel
theorem dX5_undo_17 : decode cX5_undo 17 = .ok (.aload_n 0, 1) := by decide +kernel
theorem dX5_undo_18 : decode cX5_undo 18 = .ok (.getfield 33, 3) := by decide +kernel
theorem dX5_undo_21 : decode cX5_undo 21 = .ok (.invokevirtual 153, 3) := by decide +kernel
theorem dX5_undo_24 : decode cX5_undo 24 = .ok (.aload_n 0, 1) := by decide +kernel
theorem dX5_undo_25 : decode cX5_undo 25 = .ok (.getfield 40, 3) := by decide +kernel
theorem dX5_undo_28 : decode cX5_undo 28 = .ok (.getfield 149, 3) := by decide +kernel
theorem dX5_undo_31 : decode cX5_undo 31 = .ok (.ireturn, 1) := by decide +kernel
theorem dX5_hours_0 : decode cX5_hours 0 = .ok (.aload_n 0, 1) := by decide +kernel
theorem dX5_hours_1 : decode cX5_hours 1 = .ok (.invokevirtual 156, 3) := by decide +kernel
theorem dX5_hours_4 : decode cX5_hours 4 = .ok (.ifCond .ne 6, 3) := by decide +kernel
theorem dX5_hours_7 : decode cX5_hours 7 = .ok (.ldc 152, 2) := by decide +kernel
theorem dX5_hours_9 : decode cX5_hours 9 = .ok (.ireturn, 1) := by decide +kernel
theorem dX5_hours_10 : decode cX5_hours 10 = .ok (.iload_n 1, 1) := by decide +kernel
theorem dX5_hours_11 : decode cX5_hours 11 = .ok (.iconst 1, 1) := by decide +kernel
theorem dX5_hours_12 : decode cX5_hours 12 = .ok (.bipush 24, 2) := by decide +kernel
theorem dX5_hours_14 : decode cX5_hours 14 = .ok (.invokestatic 73, 3) := by decide +kernel
theorem dX5_hours_17 : decode cX5_hours 17 = .ok (.ifCond .ne 6, 3) := by decide +kernel
theorem dX5_hours_20 : decode cX5_hours 20 = .ok (.ldc 77, 2) := by decide +kernel
theorem dX5_hours_22 : decode cX5_hours 22 = .ok (.ireturn, 1) := by decide +kernel
theorem dX5_hours_23 : decode cX5_hours 23 = .ok (.aload_n 0, 1) := by decide +kernel
theorem dX5_hours_24 : decode cX5_hours 24 = .ok (.getfield 33, 3) := by decide +kernel
theorem dX5_hours_27 : decode cX5_hours 27 = .ok (.getfield 160, 3) := by decide +kernel
theorem dX5_hours_30 : decode cX5_hours 30 = .ok (.iload_n 1, 1) := by decide +kernel
theorem dX5_hours_31 : decode cX5_hours 31 = .ok (.iadd, 1) := by decide +kernel
theorem dX5_hours_32 : decode cX5_hours 32 = .ok (.sipush 999, 3) := by decide +kernel
theorem dX5_hours_35 : decode cX5_hours 35 = .ok (.if_icmp .le 6, 3) := by decide +kernel
theorem dX5_hours_38 : decode cX5_hours 38 = .ok (.ldc 119, 2) := by decide +kernel
theorem dX5_hours_40 : decode cX5_hours 40 = .ok (.ireturn, 1) := by decide +kernel
theorem dX5_hours_41 : decode cX5_hours 41 = .ok (.iconst 0, 1) := by decide +kernel
theorem dX5_hours_42 : decode cX5_hours 42 = .ok (.istore_n 2, 1) := by decide +kernel
theorem dX5_hours_43 : decode cX5_hours 43 = .ok (.iload_n 2, 1) := by decide +kernel
theorem dX5_hours_44 : decode cX5_hours 44 = .ok (.iload_n 1, 1) := by decide +kernel
theorem dX5_hours_45 : decode cX5_hours 45 = .ok (.if_icmp .ge 31, 3) := by decide +kernel
theorem dX5_hours_48 : decode cX5_hours 48 = .ok (.aload_n 0, 1) := by decide +kernel
theorem dX5_hours_49 : decode cX5_hours 49 = .ok (.getfield 40, 3) := by decide +kernel
theorem dX5_hours_52 : decode cX5_hours 52 = .ok (.aload_n 0, 1) := by decide +kernel
theorem dX5_hours_53 : decode cX5_hours 53 = .ok (.getfield 33, 3) := by decide +kernel
theorem dX5_hours_56 : decode cX5_hours 56 = .ok (.invokevirtual 163, 3) := by decide +kernel
theorem dX5_hours_59 : decode cX5_hours 59 = .ok (.aload_n 0, 1) := by decide +kernel
theorem dX5_hours_60 : decode cX5_hours 60 = .ok (.getfield 33, 3) := by decide +kernel
theorem dX5_hours_63 : decode cX5_hours 63 = .ok (.aload_n 0, 1) := by decide +kernel
theorem dX5_hours_64 : decode cX5_hours 64 = .ok (.getfield 26, 3) := by decide +kernel
theorem dX5_hours_67 : decode cX5_hours 67 = .ok (.invokevirtual 166, 3) := by decide +kernel
theorem dX5_hours_70 : decode cX5_hours 70 = .ok (.iinc 2 1, 3) := by decide +kernel
theorem dX5_hours_73 : decode cX5_hours 73 = .ok (.goto (-30), 3) := by decide +kernel
theorem dX5_hours_76 : decode cX5_hours 76 = .ok (.aload_n 0, 1) := by decide +kernel
theorem dX5_hours_77 : decode cX5_hours 77 = .ok (.getfield 33, 3) := by decide +kernel
theorem dX5_hours_80 : decode cX5_hours 80 = .ok (.getfield 169, 3) := by decide +kernel
theorem dX5_hours_83 : decode cX5_hours 83 = .ok (.ireturn, 1) := by decide +kernel
theorem dX5_wish_0 : decode cX5_wish 0 = .ok (.aload_n 0, 1) := by decide +kernel
theorem dX5_wish_1 : decode cX5_wish 1 = .ok (.iload_n 1, 1) := by decide +kernel
theorem dX5_wish_2 : decode cX5_wish 2 = .ok (.invokevirtual 172, 3) := by decide +kernel
theorem dX5_wish_5 : decode cX5_wish 5 = .ok (.ifCond .eq 21, 3) := by decide +kernel
theorem dX5_wish_8 : decode cX5_wish 8 = .ok (.aload_n 0, 1) := by decide +kernel
theorem dX5_wish_9 : decode cX5_wish 9 = .ok (.iload_n 2, 1) := by decide +kernel
theorem dX5_wish_10 : decode cX5_wish 10 = .ok (.invokevirtual 175, 3) := by decide +kernel
theorem dX5_wish_13 : decode cX5_wish 13 = .ok (.ifCond .eq 13, 3) := by decide +kernel
theorem dX5_wish_16 : decode cX5_wish 16 = .ok (.iload_n 3, 1) := by decide +kernel
theorem dX5_wish_17 : decode cX5_wish 17 = .ok (.iconst 0, 1) := by decide +kernel
theorem dX5_wish_18 : decode cX5_wish 18 = .ok (.bipush 40, 2) := by decide +kernel
theorem dX5_wish_20 : decode cX5_wish 20 = .ok (.invokestatic 73, 3) := by decide +kernel
theorem dX5_wish_23 : decode cX5_wish 23 = .ok (.ifCond .ne 6, 3) := by decide +kernel
theorem dX5_wish_26 : decode cX5_wish 26 = .ok (.ldc 77, 2) := by decide +kernel
theorem dX5_wish_28 : decode cX5_wish 28 = .ok (.ireturn, 1) := by decide +kernel
theorem dX5_wish_29 : decode cX5_wish 29 = .ok (.bipush 100, 2) := by decide +kernel
theorem dX5_wish_31 : decode cX5_wish 31 = .ok (.aload_n 0, 1) := by decide +kernel
theorem dX5_wish_32 : decode cX5_wish 32 = .ok (.getfield 33, 3) := by decide +kernel
theorem dX5_wish_35 : decode cX5_wish 35 = .ok (.getfield 178, 3) := by decide +kernel
theorem dX5_wish_38 : decode cX5_wish 38 = .ok (.iload_n 1, 1) := by decide +kernel
theorem dX5_wish_39 : decode cX5_wish 39 = .ok (.iaload, 1) := by decide +kernel
theorem dX5_wish_40 : decode cX5_wish 40 = .ok (.imul, 1) := by decide +kernel
theorem dX5_wish_41 : decode cX5_wish 41 = .ok (.aload_n 0, 1) := by decide +kernel
theorem dX5_wish_42 : decode cX5_wish 42 = .ok (.getfield 33, 3) := by decide +kernel
theorem dX5_wish_45 : decode cX5_wish 45 = .ok (.getfield 181, 3) := by decide +kernel
theorem dX5_wish_48 : decode cX5_wish 48 = .ok (.iload_n 1, 1) := by decide +kernel
theorem dX5_wish_49 : decode cX5_wish 49 = .ok (.iaload, 1) := by decide +kernel
theorem dX5_wish_50 : decode cX5_wish 50 = .ok (.iadd, 1) := by decide +kernel
theorem dX5_wish_51 : decode cX5_wish 51 = .ok (.istore 4, 2) := by decide +kernel
theorem dX5_wish_53 : decode cX5_wish 53 = .ok (.aload_n 0, 1) := by decide +kernel
theorem dX5_wish_54 : decode cX5_wish 54 = .ok (.getfield 40, 3) := by decide +kernel
theorem dX5_wish_57 : decode cX5_wish 57 = .ok (.aload_n 0, 1) := by decide +kernel
theorem dX5_wish_58 : decode cX5_wish 58 = .ok (.getfield 33, 3) := by decide +kernel
theorem dX5_wish_61 : decode cX5_wish 61 = .ok (.invokevirtual 163, 3) := by decide +kernel
theorem dX5_wish_64 : decode cX5_wish 64 = .ok (.aload_n 0, 1) := by decide +kernel
theorem dX5_wish_65 : decode cX5_wish 65 = .ok (.getfield 33, 3) := by decide +kernel
theorem dX5_wish_68 : decode cX5_wish 68 = .ok (.getfield 178, 3) := by decide +kernel
theorem dX5_wish_71 : decode cX5_wish 71 = .ok (.iload_n 1, 1) := by decide +kernel
theorem dX5_wish_72 : decode cX5_wish 72 = .ok (.iload_n 2, 1) := by decide +kernel
theorem dX5_wish_73 : decode cX5_wish 73 = .ok (.iastore, 1) := by decide +kernel
theorem dX5_wish_74 : decode cX5_wish 74 = .ok (.aload_n 0, 1) := by decide +kernel
theorem dX5_wish_75 : decode cX5_wish 75 = .ok (.getfield 33, 3) := by decide +kernel
theorem dX5_wish_78 : decode cX5_wish 78 = .ok (.getfield 181, 3) := by decide +kernel
theorem dX5_wish_81 : decode cX5_wish 81 = .ok (.iload_n 1, 1) := by decide +kernel
theorem dX5_wish_82 : decode cX5_wish 82 = .ok (.iload_n 3, 1) := by decide +kernel
theorem dX5_wish_83 : decode cX5_wish 83 = .ok (.iastore, 1) := by decide +kernel
theorem dX5_wish_84 : decode cX5_wish 84 = .ok (.iload 4, 2) := by decide +kernel
theorem dX5_wish_86 : decode cX5_wish 86 = .ok (.ireturn, 1) := by decide +kernel
theorem dX5_rest_0 : decode cX5_rest 0 = .ok (.aload_n 0, 1) := by decide +kernel
theorem dX5_rest_1 : decode cX5_rest 1 = .ok (.iload_n 1, 1) := by decide +kernel
theorem dX5_rest_2 : decode cX5_rest 2 = .ok (.invokevirtual 172, 3) := by decide +kernel
theorem dX5_rest_5 : decode cX5_rest 5 = .ok (.ifCond .eq 12, 3) := by decide +kernel
theorem dX5_rest_8 : decode cX5_rest 8 = .ok (.iload_n 2, 1) := by decide +kernel
theorem dX5_rest_9 : decode cX5_rest 9 = .ok (.iconst 0, 1) := by decide +kernel
theorem dX5_rest_10 : decode cX5_rest 10 = .ok (.iconst 1, 1) := by decide +kernel
theorem dX5_rest_11 : decode cX5_rest 11 = .ok (.invokestatic 73, 3) := by decide +kernel
theorem dX5_rest_14 : decode cX5_rest 14 = .ok (.ifCond .ne 6, 3) := by decide +kernel
theorem dX5_rest_17 : decode cX5_rest 17 = .ok (.ldc 77, 2) := by decide +kernel
theorem dX5_rest_19 : decode cX5_rest 19 = .ok (.ireturn, 1) := by decide +kernel
theorem dX5_rest_20 : decode cX5_rest 20 = .ok (.aload_n 0, 1) := by decide +kernel
theorem dX5_rest_21 : decode cX5_rest 21 = .ok (.getfield 33, 3) := by decide +kernel
theorem dX5_rest_24 : decode cX5_rest 24 = .ok (.getfield 184, 3) := by decide +kernel
theorem dX5_rest_27 : decode cX5_rest 27 = .ok (.iload_n 1, 1) := by decide +kernel
theorem dX5_rest_28 : decode cX5_rest 28 = .ok (.invokestatic 187, 3) := by decide +kernel
theorem dX5_rest_31 : decode cX5_rest 31 = .ok (.iload_n 2, 1) := by decide +kernel
theorem dX5_rest_32 : decode cX5_rest 32 = .ok (.if_icmp .ne 6, 3) := by decide +kernel
theorem dX5_rest_35 : decode cX5_rest 35 = .ok (.ldc 152, 2) := by decide +kernel
theorem dX5_rest_37 : decode cX5_rest 37 = .ok (.ireturn, 1) := by decide +kernel
theorem dX5_rest_38 : decode cX5_rest 38 = .ok (.aload_n 0, 1) := by decide +kernel
theorem dX5_rest_39 : decode cX5_rest 39 = .ok (.getfield 40, 3) := by decide +kernel
theorem dX5_rest_42 : decode cX5_rest 42 = .ok (.aload_n 0, 1) := by decide +kernel
theorem dX5_rest_43 : decode cX5_rest 43 = .ok (.getfield 33, 3) := by decide +kernel
theorem dX5_rest_46 : decode cX5_rest 46 = .ok (.invokevirtual 163, 3) := by decide +kernel
theorem dX5_rest_49 : decode cX5_rest 49 = .ok (.aload_n 0, 1) := by decide +kernel
theorem dX5_rest_50 : decode cX5_rest 50 = .ok (.getfield 33, 3) := by decide +kernel
theorem dX5_rest_53 : decode cX5_rest 53 = .ok (.dup, 1) := by decide +kernel
theorem dX5_rest_54 : decode cX5_rest 54 = .ok (.getfield 184, 3) := by decide +kernel
theorem dX5_rest_57 : decode cX5_rest 57 = .ok (.iconst 1, 1) := by decide +kernel
theorem dX5_rest_58 : decode cX5_rest 58 = .ok (.iload_n 1, 1) := by decide +kernel
theorem dX5_rest_59 : decode cX5_rest 59 = .ok (.ishl, 1) := by decide +kernel
theorem dX5_rest_60 : decode cX5_rest 60 = .ok (.ixor, 1) := by decide +kernel
theorem dX5_rest_61 : decode cX5_rest 61 = .ok (.putfield 184, 3) := by decide +kernel
theorem dX5_rest_64 : decode cX5_rest 64 = .ok (.aload_n 0, 1) := by decide +kernel
theorem dX5_rest_65 : decode cX5_rest 65 = .ok (.getfield 33, 3) := by decide +kernel
theorem dX5_rest_68 : decode cX5_rest 68 = .ok (.getfield 184, 3) := by decide +kernel
theorem dX5_rest_71 : decode cX5_rest 71 = .ok (.invokestatic 191, 3) := by decide +kernel
theorem dX5_rest_74 : decode cX5_rest 74 = .ok (.ireturn, 1) := by decide +kernel
theorem dX5_wisher_0 : decode cX5_wisher 0 = .ok (.aload_n 0, 1) := by decide +kernel
theorem dX5_wisher_1 : decode cX5_wisher 1 = .ok (.iload_n 1, 1) := by decide +kernel
theorem dX5_wisher_2 : decode cX5_wisher 2 = .ok (.invokevirtual 172, 3) := by decide +kernel
theorem dX5_wisher_5 : decode cX5_wisher 5 = .ok (.ifCond .ne 6, 3) := by decide +kernel
theorem dX5_wisher_8 : decode cX5_wisher 8 = .ok (.ldc 77, 2) := by decide +kernel
theorem dX5_wisher_10 : decode cX5_wisher 10 = .ok (.ireturn, 1) := by decide +kernel
theorem dX5_wisher_11 : decode cX5_wisher 11 = .ok (.iload_n 2, 1) := by decide +kernel
theorem dX5_wisher_12 : decode cX5_wisher 12 = .ok (.tableswitch 124 0 5 #[40, 50, 60, 70, 80, 92], 40) := by decide +kernel
theorem dX5_wisher_52 : decode cX5_wisher 52 = .ok (.aload_n 0, 1) := by decide +kernel
theorem dX5_wisher_53 : decode cX5_wisher 53 = .ok (.getfield 26, 3) := by decide +kernel
theorem dX5_wisher_56 : decode cX5_wisher 56 = .ok (.getfield 196, 3) := by decide +kernel
theorem dX5_wisher_59 : decode cX5_wisher 59 = .ok (.iload_n 1, 1) := by decide +kernel
theorem dX5_wisher_60 : decode cX5_wisher 60 = .ok (.iaload, 1) := by decide +kernel
theorem dX5_wisher_61 : decode cX5_wisher 61 = .ok (.ireturn, 1) := by decide +kernel
theorem dX5_wisher_62 : decode cX5_wisher 62 = .ok (.aload_n 0, 1) := by decide +kernel
theorem dX5_wisher_63 : decode cX5_wisher 63 = .ok (.getfield 33, 3) := by decide +kernel
theorem dX5_wisher_66 : decode cX5_wisher 66 = .ok (.getfield 178, 3) := by decide +kernel
theorem dX5_wisher_69 : decode cX5_wisher 69 = .ok (.iload_n 1, 1) := by decide +kernel
theorem dX5_wisher_70 : decode cX5_wisher 70 = .ok (.iaload, 1) := by decide +kernel
theorem dX5_wisher_71 : decode cX5_wisher 71 = .ok (.ireturn, 1) := by decide +kernel
theorem dX5_wisher_72 : decode cX5_wisher 72 = .ok (.aload_n 0, 1) := by decide +kernel
theorem dX5_wisher_73 : decode cX5_wisher 73 = .ok (.getfield 33, 3) := by decide +kernel
theorem dX5_wisher_76 : decode cX5_wisher 76 = .ok (.getfield 181, 3) := by decide +kernel
theorem dX5_wisher_79 : decode cX5_wisher 79 = .ok (.iload_n 1, 1) := by decide +kernel
theorem dX5_wisher_80 : decode cX5_wisher 80 = .ok (.iaload, 1) := by decide +kernel
theorem dX5_wisher_81 : decode cX5_wisher 81 = .ok (.ireturn, 1) := by decide +kernel
theorem dX5_wisher_82 : decode cX5_wisher 82 = .ok (.aload_n 0, 1) := by decide +kernel
theorem dX5_wisher_83 : decode cX5_wisher 83 = .ok (.getfield 33, 3) := by decide +kernel
theorem dX5_wisher_86 : decode cX5_wisher 86 = .ok (.getfield 199, 3) := by decide +kernel
theorem dX5_wisher_89 : decode cX5_wisher 89 = .ok (.iload_n 1, 1) := by decide +kernel
theorem dX5_wisher_90 : decode cX5_wisher 90 = .ok (.iaload, 1) := by decide +kernel
theorem dX5_wisher_91 : decode cX5_wisher 91 = .ok (.ireturn, 1) := by decide +kernel
theorem dX5_wisher_92 : decode cX5_wisher 92 = .ok (.aload_n 0, 1) := by decide +kernel
theorem dX5_wisher_93 : decode cX5_wisher 93 = .ok (.getfield 33, 3) := by decide +kernel
theorem dX5_wisher_96 : decode cX5_wisher 96 = .ok (.getfield 184, 3) := by decide +kernel
theorem dX5_wisher_99 : decode cX5_wisher 99 = .ok (.iload_n 1, 1) := by decide +kernel
theorem dX5_wisher_100 : decode cX5_wisher 100 = .ok (.invokestatic 187, 3) := by decide +kernel
theorem dX5_wisher_103 : decode cX5_wisher 103 = .ok (.ireturn, 1) := by decide +kernel
theorem dX5_wisher_104 : decode cX5_wisher 104 = .ok (.aload_n 0, 1) := by decide +kernel
theorem dX5_wisher_105 : decode cX5_wisher 105 = .ok (.getfield 33, 3) := by decide +kernel
theorem dX5_wisher_108 : decode cX5_wisher 108 = .ok (.aload_n 0, 1) := by decide +kernel
theorem dX5_wisher_109 : decode cX5_wisher 109 = .ok (.getfield 26, 3) := by decide +kernel
theorem dX5_wisher_112 : decode cX5_wisher 112 = .ok (.iload_n 1, 1) := by decide +kernel
theorem dX5_wisher_113 : decode cX5_wisher 113 = .ok (.invokevirtual 202, 3) := by decide +kernel
theorem dX5_wisher_116 : decode cX5_wisher 116 = .ok (.ifCond .eq 18, 3) := by decide +kernel
theorem dX5_wisher_119 : decode cX5_wisher 119 = .ok (.aload_n 0, 1) := by decide +kernel
theorem dX5_wisher_120 : decode cX5_wisher 120 = .ok (.getfield 33, 3) := by decide +kernel
theorem dX5_wisher_123 : decode cX5_wisher 123 = .ok (.aload_n 0, 1) := by decide +kernel
theorem dX5_wisher_124 : decode cX5_wisher 124 = .ok (.getfield 26, 3) := by decide +kernel
theorem dX5_wisher_127 : decode cX5_wisher 127 = .ok (.iload_n 1, 1) := by decide +kernel
theorem dX5_wisher_128 : decode cX5_wisher 128 = .ok (.invokevirtual 206, 3) := by decide +kernel
theorem dX5_wisher_131 : decode cX5_wisher 131 = .ok (.goto 4, 3) := by decide +kernel
theorem dX5_wisher_134 : decode cX5_wisher 134 = .ok (.iconst 0, 1) := by decide +kernel
theorem dX5_wisher_135 : decode cX5_wisher 135 = .ok (.ireturn, 1) := by decide +kernel
theorem dX5_wisher_136 : decode cX5_wisher 136 = .ok (.ldc 77, 2) := by decide +kernel
theorem dX5_wisher_138 : decode cX5_wisher 138 = .ok (.ireturn, 1) := by decide +kernel
theorem dX5_place_0 : decode cX5_place 0 = .ok (.aload_n 0, 1) := by decide +kernel
theorem dX5_place_1 : decode cX5_place 1 = .ok (.invokevirtual 156, 3) := by decide +kernel
theorem dX5_place_4 : decode cX5_place 4 = .ok (.ifCond .ne 6, 3) := by decide +kernel
theorem dX5_place_7 : decode cX5_place 7 = .ok (.ldc 152, 2) := by decide +kernel
theorem dX5_place_9 : decode cX5_place 9 = .ok (.ireturn, 1) := by decide +kernel
theorem dX5_place_10 : decode cX5_place 10 = .ok (.aload_n 0, 1) := by decide +kernel
theorem dX5_place_11 : decode cX5_place 11 = .ok (.iload_n 1, 1) := by decide +kernel
theorem dX5_place_12 : decode cX5_place 12 = .ok (.invokevirtual 175, 3) := by decide +kernel
theorem dX5_place_15 : decode cX5_place 15 = .ok (.ifCond .ne 6, 3) := by decide +kernel
theorem dX5_place_18 : decode cX5_place 18 = .ok (.ldc 77, 2) := by decide +kernel
theorem dX5_place_20 : decode cX5_place 20 = .ok (.ireturn, 1) := by decide +kernel
theorem dX5_place_21 : decode cX5_place 21 = .ok (.iload_n 2, 1) := by decide +kernel
theorem dX5_place_22 : decode cX5_place 22 = .ok (.tableswitch 69 0 2 #[26, 47, 59], 26) := by decide +kernel
theorem dX5_place_48 : decode cX5_place 48 = .ok (.aload_n 0, 1) := by decide +kernel
theorem dX5_place_49 : decode cX5_place 49 = .ok (.getfield 33, 3) := by decide +kernel
theorem dX5_place_52 : decode cX5_place 52 = .ok (.aload_n 0, 1) := by decide +kernel
theorem dX5_place_53 : decode cX5_place 53 = .ok (.getfield 26, 3) := by decide +kernel
theorem dX5_place_56 : decode cX5_place 56 = .ok (.invokevirtual 210, 3) := by decide +kernel
theorem dX5_place_59 : decode cX5_place 59 = .ok (.aload_n 0, 1) := by decide +kernel
theorem dX5_place_60 : decode cX5_place 60 = .ok (.getfield 33, 3) := by decide +kernel
theorem dX5_place_63 : decode cX5_place 63 = .ok (.getfield 213, 3) := by decide +kernel
theorem dX5_place_66 : decode cX5_place 66 = .ok (.iload_n 1, 1) := by decide +kernel
theorem dX5_place_67 : decode cX5_place 67 = .ok (.iaload, 1) := by decide +kernel
theorem dX5_place_68 : decode cX5_place 68 = .ok (.ireturn, 1) := by decide +kernel
theorem dX5_place_69 : decode cX5_place 69 = .ok (.aload_n 0, 1) := by decide +kernel
theorem dX5_place_70 : decode cX5_place 70 = .ok (.getfield 33, 3) := by decide +kernel
theorem dX5_place_73 : decode cX5_place 73 = .ok (.getfield 216, 3) := by decide +kernel
theorem dX5_place_76 : decode cX5_place 76 = .ok (.iload_n 1, 1) := by decide +kernel
theorem dX5_place_77 : decode cX5_place 77 = .ok (.invokestatic 187, 3) := by decide +kernel
theorem dX5_place_80 : decode cX5_place 80 = .ok (.ireturn, 1) := by decide +kernel
theorem dX5_place_81 : decode cX5_place 81 = .ok (.aload_n 0, 1) := by decide +kernel
theorem dX5_place_82 : decode cX5_place 82 = .ok (.getfield 26, 3) := by decide +kernel
theorem dX5_place_85 : decode cX5_place 85 = .ok (.getfield 219, 3) := by decide +kernel
theorem dX5_place_88 : decode cX5_place 88 = .ok (.iload_n 1, 1) := by decide +kernel
theorem dX5_place_89 : decode cX5_place 89 = .ok (.iaload, 1) := by decide +kernel
theorem dX5_place_90 : decode cX5_place 90 = .ok (.ireturn, 1) := by decide +kernel
theorem dX5_place_91 : decode cX5_place 91 = .ok (.ldc 77, 2) := by decide +kernel
theorem dX5_place_93 : decode cX5_place 93 = .ok (.ireturn, 1) := by decide +kernel
theorem dX5_far_0 : decode cX5_far 0 = .ok (.aload_n 0, 1) := by decide +kernel
theorem dX5_far_1 : decode cX5_far 1 = .ok (.invokevirtual 156, 3) := by decide +kernel
theorem dX5_far_4 : decode cX5_far 4 = .ok (.ifCond .ne 6, 3) := by decide +kernel
theorem dX5_far_7 : decode cX5_far 7 = .ok (.ldc 152, 2) := by decide +kernel
theorem dX5_far_9 : decode cX5_far 9 = .ok (.ireturn, 1) := by decide +kernel
theorem dX5_far_10 : decode cX5_far 10 = .ok (.aload_n 0, 1) := by decide +kernel
theorem dX5_far_11 : decode cX5_far 11 = .ok (.iload_n 1, 1) := by decide +kernel
theorem dX5_far_12 : decode cX5_far 12 = .ok (.invokevirtual 175, 3) := by decide +kernel
theorem dX5_far_15 : decode cX5_far 15 = .ok (.ifCond .eq 11, 3) := by decide +kernel
theorem dX5_far_18 : decode cX5_far 18 = .ok (.aload_n 0, 1) := by decide +kernel
theorem dX5_far_19 : decode cX5_far 19 = .ok (.iload_n 2, 1) := by decide +kernel
theorem dX5_far_20 : decode cX5_far 20 = .ok (.invokevirtual 175, 3) := by decide +kernel
theorem dX5_far_23 : decode cX5_far 23 = .ok (.ifCond .ne 6, 3) := by decide +kernel
theorem dX5_far_26 : decode cX5_far 26 = .ok (.ldc 77, 2) := by decide +kernel
theorem dX5_far_28 : decode cX5_far 28 = .ok (.ireturn, 1) := by decide +kernel
theorem dX5_far_29 : decode cX5_far 29 = .ok (.aload_n 0, 1) := by decide +kernel
theorem dX5_far_30 : decode cX5_far 30 = .ok (.getfield 26, 3) := by decide +kernel
theorem dX5_far_33 : decode cX5_far 33 = .ok (.iload_n 1, 1) := by decide +kernel
theorem dX5_far_34 : decode cX5_far 34 = .ok (.iload_n 2, 1) := by decide +kernel
theorem dX5_far_35 : decode cX5_far 35 = .ok (.invokevirtual 222, 3) := by decide +kernel
theorem dX5_far_38 : decode cX5_far 38 = .ok (.ireturn, 1) := by decide +kernel
theorem dX5_ahead_0 : decode cX5_ahead 0 = .ok (.aload_n 0, 1) := by decide +kernel
theorem dX5_ahead_1 : decode cX5_ahead 1 = .ok (.invokevirtual 156, 3) := by decide +kernel
theorem dX5_ahead_4 : decode cX5_ahead 4 = .ok (.ifCond .ne 6, 3) := by decide +kernel
theorem dX5_ahead_7 : decode cX5_ahead 7 = .ok (.ldc 152, 2) := by decide +kernel
theorem dX5_ahead_9 : decode cX5_ahead 9 = .ok (.ireturn, 1) := by decide +kernel
theorem dX5_ahead_10 : decode cX5_ahead 10 = .ok (.iload_n 1, 1) := by decide +kernel
theorem dX5_ahead_11 : decode cX5_ahead 11 = .ok (.iconst 0, 1) := by decide +kernel
theorem dX5_ahead_12 : decode cX5_ahead 12 = .ok (.bipush 60, 2) := by decide +kernel
theorem dX5_ahead_14 : decode cX5_ahead 14 = .ok (.invokestatic 73, 3) := by decide +kernel
theorem dX5_ahead_17 : decode cX5_ahead 17 = .ok (.ifCond .eq 12, 3) := by decide +kernel
theorem dX5_ahead_20 : decode cX5_ahead 20 = .ok (.iload_n 2, 1) := by decide +kernel
theorem dX5_ahead_21 : decode cX5_ahead 21 = .ok (.iconst 0, 1) := by decide +kernel
theorem dX5_ahead_22 : decode cX5_ahead 22 = .ok (.iconst 1, 1) := by decide +kernel
theorem dX5_ahead_23 : decode cX5_ahead 23 = .ok (.invokestatic 73, 3) := by decide +kernel
theorem dX5_ahead_26 : decode cX5_ahead 26 = .ok (.ifCond .ne 6, 3) := by decide +kernel
theorem dX5_ahead_29 : decode cX5_ahead 29 = .ok (.ldc 77, 2) := by decide +kernel
theorem dX5_ahead_31 : decode cX5_ahead 31 = .ok (.ireturn, 1) := by decide +kernel
theorem dX5_ahead_32 : decode cX5_ahead 32 = .ok (.aload_n 0, 1) := by decide +kernel
theorem dX5_ahead_33 : decode cX5_ahead 33 = .ok (.getfield 44, 3) := by decide +kernel
theorem dX5_ahead_36 : decode cX5_ahead 36 = .ok (.aload_n 0, 1) := by decide +kernel
theorem dX5_ahead_37 : decode cX5_ahead 37 = .ok (.getfield 33, 3) := by decide +kernel
theorem dX5_ahead_40 : decode cX5_ahead 40 = .ok (.invokevirtual 140, 3) := by decide +kernel
theorem dX5_ahead_43 : decode cX5_ahead 43 = .ok (.aload_n 0, 1) := by decide +kernel
theorem dX5_ahead_44 : decode cX5_ahead 44 = .ok (.getfield 44, 3) := by decide +kernel
theorem dX5_ahead_47 : decode cX5_ahead 47 = .ok (.aload_n 0, 1) := by decide +kernel
theorem dX5_ahead_48 : decode cX5_ahead 48 = .ok (.getfield 26, 3) := by decide +kernel
theorem dX5_ahead_51 : decode cX5_ahead 51 = .ok (.iload_n 1, 1) := by decide +kernel
theorem dX5_ahead_52 : decode cX5_ahead 52 = .ok (.invokevirtual 225, 3) := by decide +kernel
theorem dX5_ahead_55 : decode cX5_ahead 55 = .ok (.iload_n 2, 1) := by decide +kernel
theorem dX5_ahead_56 : decode cX5_ahead 56 = .ok (.ifCond .ne 13, 3) := by decide +kernel
theorem dX5_ahead_59 : decode cX5_ahead 59 = .ok (.aload_n 0, 1) := by decide +kernel
theorem dX5_ahead_60 : decode cX5_ahead 60 = .ok (.getfield 44, 3) := by decide +kernel
theorem dX5_ahead_63 : decode cX5_ahead 63 = .ok (.getfield 169, 3) := by decide +kernel
theorem dX5_ahead_66 : decode cX5_ahead 66 = .ok (.goto 10, 3) := by decide +kernel
theorem dX5_ahead_69 : decode cX5_ahead 69 = .ok (.aload_n 0, 1) := by decide +kernel
theorem dX5_ahead_70 : decode cX5_ahead 70 = .ok (.getfield 44, 3) := by decide +kernel
theorem dX5_ahead_73 : decode cX5_ahead 73 = .ok (.getfield 229, 3) := by decide +kernel
theorem dX5_ahead_76 : decode cX5_ahead 76 = .ok (.ireturn, 1) := by decide +kernel
theorem dX5_comes_0 : decode cX5_comes 0 = .ok (.aload_n 0, 1) := by decide +kernel
theorem dX5_comes_1 : decode cX5_comes 1 = .ok (.invokevirtual 156, 3) := by decide +kernel
theorem dX5_comes_4 : decode cX5_comes 4 = .ok (.ifCond .ne 6, 3) := by decide +kernel
theorem dX5_comes_7 : decode cX5_comes 7 = .ok (.ldc 152, 2) := by decide +kernel
theorem dX5_comes_9 : decode cX5_comes 9 = .ok (.ireturn, 1) := by decide +kernel
theorem dX5_comes_10 : decode cX5_comes 10 = .ok (.aload_n 0, 1) := by decide +kernel
theorem dX5_comes_11 : decode cX5_comes 11 = .ok (.iload_n 1, 1) := by decide +kernel
theorem dX5_comes_12 : decode cX5_comes 12 = .ok (.invokevirtual 175, 3) := by decide +kernel
theorem dX5_comes_15 : decode cX5_comes 15 = .ok (.ifCond .eq 13, 3) := by decide +kernel
theorem dX5_comes_18 : decode cX5_comes 18 = .ok (.iload_n 2, 1) := by decide +kernel
theorem dX5_comes_19 : decode cX5_comes 19 = .ok (.iconst 1, 1) := by decide +kernel
theorem dX5_comes_20 : decode cX5_comes 20 = .ok (.bipush 60, 2) := by decide +kernel
theorem dX5_comes_22 : decode cX5_comes 22 = .ok (.invokestatic 73, 3) := by decide +kernel
theorem dX5_comes_25 : decode cX5_comes 25 = .ok (.ifCond .ne 6, 3) := by decide +kernel
theorem dX5_comes_28 : decode cX5_comes 28 = .ok (.ldc 77, 2) := by decide +kernel
theorem dX5_comes_30 : decode cX5_comes 30 = .ok (.ireturn, 1) := by decide +kernel
theorem dX5_comes_31 : decode cX5_comes 31 = .ok (.aload_n 0, 1) := by decide +kernel
theorem dX5_comes_32 : decode cX5_comes 32 = .ok (.getfield 44, 3) := by decide +kernel
