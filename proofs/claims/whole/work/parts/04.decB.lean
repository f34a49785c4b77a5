theorem dX8_init_0 : decode cX8_init 0 = .ok (.aload_n 0, 1) := by decide +kernel
theorem dX8_init_1 : decode cX8_init 1 = .ok (.invokespecial 1, 3) := by decide +kernel
theorem dX8_init_4 : decode cX8_init 4 = .ok (.aload_n 0, 1) := by decide +kernel
theorem dX8_init_5 : decode cX8_init 5 = .ok (.sipush 394, 3) := by decide +kernel
theorem dX8_init_8 : decode cX8_init 8 = .ok (.newarray .int, 2) := by decide +kernel
theorem dX8_init_10 : decode cX8_init 10 = .ok (.putfield 7, 3) := by decide +kernel
theorem dX8_init_13 : decode cX8_init 13 = .ok (.aload_n 0, 1) := by decide +kernel
theorem dX8_init_14 : decode cX8_init 14 = .ok (.sipush 394, 3) := by decide +kernel
theorem dX8_init_17 : decode cX8_init 17 = .ok (.newarray .int, 2) := by decide +kernel
theorem dX8_init_19 : decode cX8_init 19 = .ok (.putfield 13, 3) := by decide +kernel
theorem dX8_init_22 : decode cX8_init 22 = .ok (.aload_n 0, 1) := by decide +kernel
theorem dX8_init_23 : decode cX8_init 23 = .ok (.bipush 60, 2) := by decide +kernel
theorem dX8_init_25 : decode cX8_init 25 = .ok (.newarray .int, 2) := by decide +kernel
theorem dX8_init_27 : decode cX8_init 27 = .ok (.putfield 16, 3) := by decide +kernel
theorem dX8_init_30 : decode cX8_init 30 = .ok (.aload_n 0, 1) := by decide +kernel
theorem dX8_init_31 : decode cX8_init 31 = .ok (.bipush 7, 2) := by decide +kernel
theorem dX8_init_33 : decode cX8_init 33 = .ok (.newarray .int, 2) := by decide +kernel
theorem dX8_init_35 : decode cX8_init 35 = .ok (.putfield 19, 3) := by decide +kernel
theorem dX8_init_38 : decode cX8_init 38 = .ok (.aload_n 0, 1) := by decide +kernel
theorem dX8_init_39 : decode cX8_init 39 = .ok (.bipush 124, 2) := by decide +kernel
theorem dX8_init_41 : decode cX8_init 41 = .ok (.newarray .int, 2) := by decide +kernel
theorem dX8_init_43 : decode cX8_init 43 = .ok (.putfield 22, 3) := by decide +kernel
theorem dX8_init_46 : decode cX8_init 46 = .ok (.aload_n 0, 1) := by decide +kernel
theorem dX8_init_47 : decode cX8_init 47 = .ok (.sipush 128, 3) := by decide +kernel
theorem dX8_init_50 : decode cX8_init 50 = .ok (.newarray .int, 2) := by decide +kernel
theorem dX8_init_52 : decode cX8_init 52 = .ok (.putfield 25, 3) := by decide +kernel
theorem dX8_init_55 : decode cX8_init 55 = .ok (.aload_n 0, 1) := by decide +kernel
theorem dX8_init_56 : decode cX8_init 56 = .ok (.bipush 64, 2) := by decide +kernel
theorem dX8_init_58 : decode cX8_init 58 = .ok (.newarray .int, 2) := by decide +kernel
theorem dX8_init_60 : decode cX8_init 60 = .ok (.putfield 28, 3) := by decide +kernel
theorem dX8_init_63 : decode cX8_init 63 = .ok (.aload_n 0, 1) := by decide +kernel
theorem dX8_init_64 : decode cX8_init 64 = .ok (.bipush 7, 2) := by decide +kernel
theorem dX8_init_66 : decode cX8_init 66 = .ok (.newarray .int, 2) := by decide +kernel
theorem dX8_init_68 : decode cX8_init 68 = .ok (.putfield 31, 3) := by decide +kernel
theorem dX8_init_71 : decode cX8_init 71 = .ok (.aload_n 0, 1) := by decide +kernel
theorem dX8_init_72 : decode cX8_init 72 = .ok (.bipush 7, 2) := by decide +kernel
theorem dX8_init_74 : decode cX8_init 74 = .ok (.newarray .int, 2) := by decide +kernel
theorem dX8_init_76 : decode cX8_init 76 = .ok (.putfield 34, 3) := by decide +kernel
theorem dX8_init_79 : decode cX8_init 79 = .ok (.aload_n 0, 1) := by decide +kernel
theorem dX8_init_80 : decode cX8_init 80 = .ok (.bipush 7, 2) := by decide +kernel
theorem dX8_init_82 : decode cX8_init 82 = .ok (.newarray .int, 2) := by decide +kernel
theorem dX8_init_84 : decode cX8_init 84 = .ok (.putfield 37, 3) := by decide +kernel
theorem dX8_init_87 : decode cX8_init 87 = .ok (.aload_n 0, 1) := by decide +kernel
theorem dX8_init_88 : decode cX8_init 88 = .ok (.iconst 4, 1) := by decide +kernel
theorem dX8_init_89 : decode cX8_init 89 = .ok (.newarray .int, 2) := by decide +kernel
theorem dX8_init_91 : decode cX8_init 91 = .ok (.putfield 40, 3) := by decide +kernel
theorem dX8_init_94 : decode cX8_init 94 = .ok (.aload_n 0, 1) := by decide +kernel
theorem dX8_init_95 : decode cX8_init 95 = .ok (.bipush 30, 2) := by decide +kernel
theorem dX8_init_97 : decode cX8_init 97 = .ok (.newarray .int, 2) := by decide +kernel
theorem dX8_init_99 : decode cX8_init 99 = .ok (.putfield 43, 3) := by decide +kernel
theorem dX8_init_102 : decode cX8_init 102 = .ok (.aload_n 0, 1) := by decide +kernel
theorem dX8_init_103 : decode cX8_init 103 = .ok (.iconst 4, 1) := by decide +kernel
theorem dX8_init_104 : decode cX8_init 104 = .ok (.newarray .int, 2) := by decide +kernel
theorem dX8_init_106 : decode cX8_init 106 = .ok (.putfield 46, 3) := by decide +kernel
theorem dX8_init_109 : decode cX8_init 109 = .ok (.aload_n 0, 1) := by decide +kernel
theorem dX8_init_110 : decode cX8_init 110 = .ok (.iconst 4, 1) := by decide +kernel
theorem dX8_init_111 : decode cX8_init 111 = .ok (.newarray .int, 2) := by decide +kernel
theorem dX8_init_113 : decode cX8_init 113 = .ok (.putfield 49, 3) := by decide +kernel
theorem dX8_init_116 : decode cX8_init 116 = .ok (.aload_n 0, 1) := by decide +kernel
theorem dX8_init_117 : decode cX8_init 117 = .ok (.bipush 96, 2) := by decide +kernel
theorem dX8_init_119 : decode cX8_init 119 = .ok (.newarray .int, 2) := by decide +kernel
theorem dX8_init_121 : decode cX8_init 121 = .ok (.putfield 52, 3) := by decide +kernel
theorem dX8_init_124 : decode cX8_init 124 = .ok (.aload_n 0, 1) := by decide +kernel
theorem dX8_init_125 : decode cX8_init 125 = .ok (.bipush 24, 2) := by decide +kernel
theorem dX8_init_127 : decode cX8_init 127 = .ok (.newarray .int, 2) := by decide +kernel
theorem dX8_init_129 : decode cX8_init 129 = .ok (.putfield 55, 3) := by decide +kernel
theorem dX8_init_132 : decode cX8_init 132 = .ok (.aload_n 0, 1) := by decide +kernel
theorem dX8_init_133 : decode cX8_init 133 = .ok (.getfield 7, 3) := by decide +kernel
theorem dX8_init_136 : decode cX8_init 136 = .ok (.iconst 2, 1) := by decide +kernel
theorem dX8_init_137 : decode cX8_init 137 = .ok (.iconst 1, 1) := by decide +kernel
theorem dX8_init_138 : decode cX8_init 138 = .ok (.iastore, 1) := by decide +kernel
theorem dX8_init_139 : decode cX8_init 139 = .ok (.return_, 1) := by decide +kernel
theorem dX8_error_0 : decode cX8_error 0 = .ok (.aload_n 0, 1) := by decide +kernel
theorem dX8_error_1 : decode cX8_error 1 = .ok (.getfield 19, 3) := by decide +kernel
theorem dX8_error_4 : decode cX8_error 4 = .ok (.iload_n 1, 1) := by decide +kernel
theorem dX8_error_5 : decode cX8_error 5 = .ok (.dup2, 1) := by decide +kernel
theorem dX8_error_6 : decode cX8_error 6 = .ok (.iaload, 1) := by decide +kernel
theorem dX8_error_7 : decode cX8_error 7 = .ok (.iconst 1, 1) := by decide +kernel
theorem dX8_error_8 : decode cX8_error 8 = .ok (.iadd, 1) := by decide +kernel
theorem dX8_error_9 : decode cX8_error 9 = .ok (.iastore, 1) := by decide +kernel
theorem dX8_error_10 : decode cX8_error 10 = .ok (.ldc 58, 2) := by decide +kernel
theorem dX8_error_12 : decode cX8_error 12 = .ok (.iload_n 1, 1) := by decide +kernel
theorem dX8_error_13 : decode cX8_error 13 = .ok (.isub, 1) := by decide +kernel
theorem dX8_error_14 : decode cX8_error 14 = .ok (.ireturn, 1) := by decide +kernel
theorem dX8_in_0 : decode cX8_in 0 = .ok (.iload_n 0, 1) := by decide +kernel
theorem dX8_in_1 : decode cX8_in 1 = .ok (.iload_n 1, 1) := by decide +kernel
theorem dX8_in_2 : decode cX8_in 2 = .ok (.if_icmp .lt 12, 3) := by decide +kernel
theorem dX8_in_5 : decode cX8_in 5 = .ok (.iload_n 0, 1) := by decide +kernel
theorem dX8_in_6 : decode cX8_in 6 = .ok (.iload_n 2, 1) := by decide +kernel
theorem dX8_in_7 : decode cX8_in 7 = .ok (.if_icmp .gt 7, 3) := by decide +kernel
theorem dX8_in_10 : decode cX8_in 10 = .ok (.iconst 1, 1) := by decide +kernel
theorem dX8_in_11 : decode cX8_in 11 = .ok (.goto 4, 3) := by decide +kernel
theorem dX8_in_14 : decode cX8_in 14 = .ok (.iconst 0, 1) := by decide +kernel
theorem dX8_in_15 : decode cX8_in 15 = .ok (.ireturn, 1) := by decide +kernel
theorem dX8_held_0 : decode cX8_held 0 = .ok (.iload_n 0, 1) := by decide +kernel
theorem dX8_held_1 : decode cX8_held 1 = .ok (.iload_n 1, 1) := by decide +kernel
theorem dX8_held_2 : decode cX8_held 2 = .ok (.if_icmp .ge 7, 3) := by decide +kernel
theorem dX8_held_5 : decode cX8_held 5 = .ok (.iload_n 1, 1) := by decide +kernel
theorem dX8_held_6 : decode cX8_held 6 = .ok (.goto 13, 3) := by decide +kernel
theorem dX8_held_9 : decode cX8_held 9 = .ok (.iload_n 0, 1) := by decide +kernel
theorem dX8_held_10 : decode cX8_held 10 = .ok (.iload_n 2, 1) := by decide +kernel
theorem dX8_held_11 : decode cX8_held 11 = .ok (.if_icmp .le 7, 3) := by decide +kernel
theorem dX8_held_14 : decode cX8_held 14 = .ok (.iload_n 2, 1) := by decide +kernel
theorem dX8_held_15 : decode cX8_held 15 = .ok (.goto 4, 3) := by decide +kernel
theorem dX8_held_18 : decode cX8_held 18 = .ok (.iload_n 0, 1) := by decide +kernel
theorem dX8_held_19 : decode cX8_held 19 = .ok (.ireturn, 1) := by decide +kernel
theorem dX8_copyAll_0 : decode cX8_copyAll 0 = .ok (.iconst 0, 1) := by decide +kernel
theorem dX8_copyAll_1 : decode cX8_copyAll 1 = .ok (.istore_n 2, 1) := by decide +kernel
theorem dX8_copyAll_2 : decode cX8_copyAll 2 = .ok (.iload_n 2, 1) := by decide +kernel
theorem dX8_copyAll_3 : decode cX8_copyAll 3 = .ok (.sipush 394, 3) := by decide +kernel
theorem dX8_copyAll_6 : decode cX8_copyAll 6 = .ok (.if_icmp .ge 15, 3) := by decide +kernel
theorem dX8_copyAll_9 : decode cX8_copyAll 9 = .ok (.aload_n 1, 1) := by decide +kernel
theorem dX8_copyAll_10 : decode cX8_copyAll 10 = .ok (.iload_n 2, 1) := by decide +kernel
theorem dX8_copyAll_11 : decode cX8_copyAll 11 = .ok (.aload_n 0, 1) := by decide +kernel
theorem dX8_copyAll_12 : decode cX8_copyAll 12 = .ok (.iload_n 2, 1) := by decide +kernel
theorem dX8_copyAll_13 : decode cX8_copyAll 13 = .ok (.iaload, 1) := by decide +kernel
theorem dX8_copyAll_14 : decode cX8_copyAll 14 = .ok (.iastore, 1) := by decide +kernel
theorem dX8_copyAll_15 : decode cX8_copyAll 15 = .ok (.iinc 2 1, 3) := by decide +kernel
theorem dX8_copyAll_18 : decode cX8_copyAll 18 = .ok (.goto (-16), 3) := by decide +kernel
theorem dX8_copyAll_21 : decode cX8_copyAll 21 = .ok (.return_, 1) := by decide +kernel
theorem dX8_layDown_0 : decode cX8_layDown 0 = .ok (.iconst 0, 1) := by decide +kernel
theorem dX8_layDown_1 : decode cX8_layDown 1 = .ok (.istore_n 1, 1) := by decide +kernel
theorem dX8_layDown_2 : decode cX8_layDown 2 = .ok (.iload_n 1, 1) := by decide +kernel
theorem dX8_layDown_3 : decode cX8_layDown 3 = .ok (.bipush 60, 2) := by decide +kernel
theorem dX8_layDown_5 : decode cX8_layDown 5 = .ok (.if_icmp .ge 21, 3) := by decide +kernel
theorem dX8_layDown_8 : decode cX8_layDown 8 = .ok (.aload_n 0, 1) := by decide +kernel
theorem dX8_layDown_9 : decode cX8_layDown 9 = .ok (.getfield 16, 3) := by decide +kernel
theorem dX8_layDown_12 : decode cX8_layDown 12 = .ok (.iload_n 1, 1) := by decide +kernel
theorem dX8_layDown_13 : decode cX8_layDown 13 = .ok (.aload_n 0, 1) := by decide +kernel
theorem dX8_layDown_14 : decode cX8_layDown 14 = .ok (.getfield 7, 3) := by decide +kernel
theorem dX8_layDown_17 : decode cX8_layDown 17 = .ok (.iload_n 1, 1) := by decide +kernel
theorem dX8_layDown_18 : decode cX8_layDown 18 = .ok (.iaload, 1) := by decide +kernel
theorem dX8_layDown_19 : decode cX8_layDown 19 = .ok (.iastore, 1) := by decide +kernel
theorem dX8_layDown_20 : decode cX8_layDown 20 = .ok (.iinc 1 1, 3) := by decide +kernel
theorem dX8_layDown_23 : decode cX8_layDown 23 = .ok (.goto (-21), 3) := by decide +kernel
theorem dX8_layDown_26 : decode cX8_layDown 26 = .ok (.return_, 1) := by decide +kernel
theorem dX8_layBack_0 : decode cX8_layBack 0 = .ok (.iconst 0, 1) := by decide +kernel
theorem dX8_layBack_1 : decode cX8_layBack 1 = .ok (.istore_n 1, 1) := by decide +kernel
theorem dX8_layBack_2 : decode cX8_layBack 2 = .ok (.iload_n 1, 1) := by decide +kernel
theorem dX8_layBack_3 : decode cX8_layBack 3 = .ok (.bipush 60, 2) := by decide +kernel
theorem dX8_layBack_5 : decode cX8_layBack 5 = .ok (.if_icmp .ge 21, 3) := by decide +kernel
theorem dX8_layBack_8 : decode cX8_layBack 8 = .ok (.aload_n 0, 1) := by decide +kernel
theorem dX8_layBack_9 : decode cX8_layBack 9 = .ok (.getfield 7, 3) := by decide +kernel
theorem dX8_layBack_12 : decode cX8_layBack 12 = .ok (.iload_n 1, 1) := by decide +kernel
theorem dX8_layBack_13 : decode cX8_layBack 13 = .ok (.aload_n 0, 1) := by decide +kernel
theorem dX8_layBack_14 : decode cX8_layBack 14 = .ok (.getfield 16, 3) := by decide +kernel
theorem dX8_layBack_17 : decode cX8_layBack 17 = .ok (.iload_n 1, 1) := by decide +kernel
theorem dX8_layBack_18 : decode cX8_layBack 18 = .ok (.iaload, 1) := by decide +kernel
theorem dX8_layBack_19 : decode cX8_layBack 19 = .ok (.iastore, 1) := by decide +kernel
theorem dX8_layBack_20 : decode cX8_layBack 20 = .ok (.iinc 1 1, 3) := by decide +kernel
theorem dX8_layBack_23 : decode cX8_layBack 23 = .ok (.goto (-21), 3) := by decide +kernel
theorem dX8_layBack_26 : decode cX8_layBack 26 = .ok (.return_, 1) := by decide +kernel
theorem dX8_isFarm_0 : decode cX8_isFarm 0 = .ok (.iload_n 1, 1) := by decide +kernel
theorem dX8_isFarm_1 : decode cX8_isFarm 1 = .ok (.iconst 0, 1) := by decide +kernel
theorem dX8_isFarm_2 : decode cX8_isFarm 2 = .ok (.aload_n 0, 1) := by decide +kernel
theorem dX8_isFarm_3 : decode cX8_isFarm 3 = .ok (.getfield 7, 3) := by decide +kernel
theorem dX8_isFarm_6 : decode cX8_isFarm 6 = .ok (.iconst 5, 1) := by decide +kernel
theorem dX8_isFarm_7 : decode cX8_isFarm 7 = .ok (.iaload, 1) := by decide +kernel
theorem dX8_isFarm_8 : decode cX8_isFarm 8 = .ok (.iconst 1, 1) := by decide +kernel
theorem dX8_isFarm_9 : decode cX8_isFarm 9 = .ok (.isub, 1) := by decide +kernel
theorem dX8_isFarm_10 : decode cX8_isFarm 10 = .ok (.invokestatic 59, 3) := by decide +kernel
theorem dX8_isFarm_13 : decode cX8_isFarm 13 = .ok (.ireturn, 1) := by decide +kernel
theorem dX8_isCarrier_0 : decode cX8_isCarrier 0 = .ok (.iload_n 1, 1) := by decide +kernel
theorem dX8_isCarrier_1 : decode cX8_isCarrier 1 = .ok (.iconst 0, 1) := by decide +kernel
theorem dX8_isCarrier_2 : decode cX8_isCarrier 2 = .ok (.aload_n 0, 1) := by decide +kernel
theorem dX8_isCarrier_3 : decode cX8_isCarrier 3 = .ok (.getfield 7, 3) := by decide +kernel
theorem dX8_isCarrier_6 : decode cX8_isCarrier 6 = .ok (.bipush 6, 2) := by decide +kernel
theorem dX8_isCarrier_8 : decode cX8_isCarrier 8 = .ok (.iaload, 1) := by decide +kernel
theorem dX8_isCarrier_9 : decode cX8_isCarrier 9 = .ok (.iconst 1, 1) := by decide +kernel
theorem dX8_isCarrier_10 : decode cX8_isCarrier 10 = .ok (.isub, 1) := by decide +kernel
theorem dX8_isCarrier_11 : decode cX8_isCarrier 11 = .ok (.invokestatic 59, 3) := by decide +kernel
theorem dX8_isCarrier_14 : decode cX8_isCarrier 14 = .ok (.ireturn, 1) := by decide +kernel
theorem dX8_its_0 : decode cX8_its 0 = .ok (.aload_n 0, 1) := by decide +kernel
theorem dX8_its_1 : decode cX8_its 1 = .ok (.getfield 7, 3) := by decide +kernel
theorem dX8_its_4 : decode cX8_its 4 = .ok (.bipush 10, 2) := by decide +kernel
theorem dX8_its_6 : decode cX8_its 6 = .ok (.bipush 6, 2) := by decide +kernel
theorem dX8_its_8 : decode cX8_its 8 = .ok (.iload_n 1, 1) := by decide +kernel
theorem dX8_its_9 : decode cX8_its 9 = .ok (.imul, 1) := by decide +kernel
theorem dX8_its_10 : decode cX8_its 10 = .ok (.iadd, 1) := by decide +kernel
theorem dX8_its_11 : decode cX8_its 11 = .ok (.iload_n 2, 1) := by decide +kernel
theorem dX8_its_12 : decode cX8_its 12 = .ok (.iadd, 1) := by decide +kernel
theorem dX8_its_13 : decode cX8_its 13 = .ok (.iaload, 1) := by decide +kernel
theorem dX8_its_14 : decode cX8_its 14 = .ok (.ireturn, 1) := by decide +kernel
theorem dX8_lays1_0 : decode cX8_lays1 0 = .ok (.aload_n 0, 1) := by decide +kernel
theorem dX8_lays1_1 : decode cX8_lays1 1 = .ok (.getfield 7, 3) := by decide +kernel
theorem dX8_lays1_4 : decode cX8_lays1 4 = .ok (.bipush 10, 2) := by decide +kernel
theorem dX8_lays1_6 : decode cX8_lays1 6 = .ok (.bipush 6, 2) := by decide +kernel
theorem dX8_lays1_8 : decode cX8_lays1 8 = .ok (.iload_n 1, 1) := by decide +kernel
theorem dX8_lays1_9 : decode cX8_lays1 9 = .ok (.imul, 1) := by decide +kernel
theorem dX8_lays1_10 : decode cX8_lays1 10 = .ok (.iadd, 1) := by decide +kernel
theorem dX8_lays1_11 : decode cX8_lays1 11 = .ok (.iload_n 2, 1) := by decide +kernel
theorem dX8_lays1_12 : decode cX8_lays1 12 = .ok (.iadd, 1) := by decide +kernel
theorem dX8_lays1_13 : decode cX8_lays1 13 = .ok (.iload_n 3, 1) := by decide +kernel
theorem dX8_lays1_14 : decode cX8_lays1 14 = .ok (.iastore, 1) := by decide +kernel
theorem dX8_lays1_15 : decode cX8_lays1 15 = .ok (.return_, 1) := by decide +kernel
theorem dX8_belly_0 : decode cX8_belly 0 = .ok (.aload_n 0, 1) := by decide +kernel
theorem dX8_belly_1 : decode cX8_belly 1 = .ok (.getfield 7, 3) := by decide +kernel
theorem dX8_belly_4 : decode cX8_belly 4 = .ok (.bipush 52, 2) := by decide +kernel
theorem dX8_belly_6 : decode cX8_belly 6 = .ok (.iconst 2, 1) := by decide +kernel
theorem dX8_belly_7 : decode cX8_belly 7 = .ok (.iload_n 1, 1) := by decide +kernel
theorem dX8_belly_8 : decode cX8_belly 8 = .ok (.imul, 1) := by decide +kernel
theorem dX8_belly_9 : decode cX8_belly 9 = .ok (.iadd, 1) := by decide +kernel
theorem dX8_belly_10 : decode cX8_belly 10 = .ok (.iaload, 1) := by decide +kernel
theorem dX8_belly_11 : decode cX8_belly 11 = .ok (.ireturn, 1) := by decide +kernel
theorem dX8_change1_0 : decode cX8_change1 0 = .ok (.aload_n 0, 1) := by decide +kernel
theorem dX8_change1_1 : decode cX8_change1 1 = .ok (.getfield 7, 3) := by decide +kernel
theorem dX8_change1_4 : decode cX8_change1 4 = .ok (.iload_n 1, 1) := by decide +kernel
theorem dX8_change1_5 : decode cX8_change1 5 = .ok (.iaload, 1) := by decide +kernel
theorem dX8_change1_6 : decode cX8_change1 6 = .ok (.istore_n 3, 1) := by decide +kernel
theorem dX8_change1_7 : decode cX8_change1 7 = .ok (.aload_n 0, 1) := by decide +kernel
theorem dX8_change1_8 : decode cX8_change1 8 = .ok (.getfield 7, 3) := by decide +kernel
theorem dX8_change1_11 : decode cX8_change1 11 = .ok (.iload_n 1, 1) := by decide +kernel
theorem dX8_change1_12 : decode cX8_change1 12 = .ok (.iload_n 2, 1) := by decide +kernel
theorem dX8_change1_13 : decode cX8_change1 13 = .ok (.iastore, 1) := by decide +kernel
theorem dX8_change1_14 : decode cX8_change1 14 = .ok (.iload_n 3, 1) := by decide +kernel
theorem dX8_change1_15 : decode cX8_change1 15 = .ok (.ireturn, 1) := by decide +kernel
theorem dX8_feed_0 : decode cX8_feed 0 = .ok (.iload_n 3, 1) := by decide +kernel
theorem dX8_feed_1 : decode cX8_feed 1 = .ok (.iconst 1, 1) := by decide +kernel
theorem dX8_feed_2 : decode cX8_feed 2 = .ok (.bipush 8, 2) := by decide +kernel
theorem dX8_feed_4 : decode cX8_feed 4 = .ok (.invokestatic 59, 3) := by decide +kernel
theorem dX8_feed_7 : decode cX8_feed 7 = .ok (.ifCond .ne 9, 3) := by decide +kernel
theorem dX8_feed_10 : decode cX8_feed 10 = .ok (.aload_n 0, 1) := by decide +kernel
theorem dX8_feed_11 : decode cX8_feed 11 = .ok (.iconst 1, 1) := by decide +kernel
theorem dX8_feed_12 : decode cX8_feed 12 = .ok (.invokevirtual 63, 3) := by decide +kernel
theorem dX8_feed_15 : decode cX8_feed 15 = .ok (.ireturn, 1) := by decide +kernel
theorem dX8_feed_16 : decode cX8_feed 16 = .ok (.aload_n 0, 1) := by decide +kernel
theorem dX8_feed_17 : decode cX8_feed 17 = .ok (.getfield 7, 3) := by decide +kernel
theorem dX8_feed_20 : decode cX8_feed 20 = .ok (.iconst 3, 1) := by decide +kernel
theorem dX8_feed_21 : decode cX8_feed 21 = .ok (.iaload, 1) := by decide +kernel
theorem dX8_feed_22 : decode cX8_feed 22 = .ok (.iload_n 3, 1) := by decide +kernel
theorem dX8_feed_23 : decode cX8_feed 23 = .ok (.iadd, 1) := by decide +kernel
theorem dX8_feed_24 : decode cX8_feed 24 = .ok (.bipush 60, 2) := by decide +kernel
theorem dX8_feed_26 : decode cX8_feed 26 = .ok (.if_icmp .le 9, 3) := by decide +kernel
theorem dX8_feed_29 : decode cX8_feed 29 = .ok (.aload_n 0, 1) := by decide +kernel
theorem dX8_feed_30 : decode cX8_feed 30 = .ok (.iconst 4, 1) := by decide +kernel
theorem dX8_feed_31 : decode cX8_feed 31 = .ok (.invokevirtual 63, 3) := by decide +kernel
theorem dX8_feed_34 : decode cX8_feed 34 = .ok (.ireturn, 1) := by decide +kernel
theorem dX8_feed_35 : decode cX8_feed 35 = .ok (.iconst 0, 1) := by decide +kernel
theorem dX8_feed_36 : decode cX8_feed 36 = .ok (.istore 4, 2) := by decide +kernel
theorem dX8_feed_38 : decode cX8_feed 38 = .ok (.iload 4, 2) := by decide +kernel
theorem dX8_feed_40 : decode cX8_feed 40 = .ok (.iload_n 3, 1) := by decide +kernel
theorem dX8_feed_41 : decode cX8_feed 41 = .ok (.if_icmp .ge 46, 3) := by decide +kernel
theorem dX8_feed_44 : decode cX8_feed 44 = .ok (.aload_n 0, 1) := by decide +kernel
theorem dX8_feed_45 : decode cX8_feed 45 = .ok (.getfield 7, 3) := by decide +kernel
theorem dX8_feed_48 : decode cX8_feed 48 = .ok (.sipush 310, 3) := by decide +kernel
theorem dX8_feed_51 : decode cX8_feed 51 = .ok (.aload_n 0, 1) := by decide +kernel
theorem dX8_feed_52 : decode cX8_feed 52 = .ok (.getfield 7, 3) := by decide +kernel
theorem dX8_feed_55 : decode cX8_feed 55 = .ok (.iconst 3, 1) := by decide +kernel
theorem dX8_feed_56 : decode cX8_feed 56 = .ok (.iaload, 1) := by decide +kernel
theorem dX8_feed_57 : decode cX8_feed 57 = .ok (.iadd, 1) := by decide +kernel
theorem dX8_feed_58 : decode cX8_feed 58 = .ok (.lload_n 1, 1) := by decide +kernel
theorem dX8_feed_59 : decode cX8_feed 59 = .ok (.bipush 8, 2) := by decide +kernel
theorem dX8_feed_61 : decode cX8_feed 61 = .ok (.iload 4, 2) := by decide +kernel
theorem dX8_feed_63 : decode cX8_feed 63 = .ok (.imul, 1) := by decide +kernel
theorem dX8_feed_64 : decode cX8_feed 64 = .ok (.lshr, 1) := by decide +kernel
theorem dX8_feed_65 : decode cX8_feed 65 = .ok (.ldc2_w 67, 3) := by decide +kernel
theorem dX8_feed_68 : decode cX8_feed 68 = .ok (.land, 1) := by decide +kernel
theorem dX8_feed_69 : decode cX8_feed 69 = .ok (.l2i, 1) := by decide +kernel
theorem dX8_feed_70 : decode cX8_feed 70 = .ok (.iastore, 1) := by decide +kernel
theorem dX8_feed_71 : decode cX8_feed 71 = .ok (.aload_n 0, 1) := by decide +kernel
theorem dX8_feed_72 : decode cX8_feed 72 = .ok (.getfield 7, 3) := by decide +kernel
theorem dX8_feed_75 : decode cX8_feed 75 = .ok (.iconst 3, 1) := by decide +kernel
theorem dX8_feed_76 : decode cX8_feed 76 = .ok (.dup2, 1) := by decide +kernel
theorem dX8_feed_77 : decode cX8_feed 77 = .ok (.iaload, 1) := by decide +kernel
theorem dX8_feed_78 : decode cX8_feed 78 = .ok (.iconst 1, 1) := by decide +kernel
theorem dX8_feed_79 : decode cX8_feed 79 = .ok (.iadd, 1) := by decide +kernel
theorem dX8_feed_80 : decode cX8_feed 80 = .ok (.iastore, 1) := by decide +kernel
theorem dX8_feed_81 : decode cX8_feed 81 = .ok (.iinc 4 1, 3) := by decide +kernel
theorem dX8_feed_84 : decode cX8_feed 84 = .ok (.goto (-46), 3) := by decide +kernel
theorem dX8_feed_87 : decode cX8_feed 87 = .ok (.aload_n 0, 1) := by decide +kernel
theorem dX8_feed_88 : decode cX8_feed 88 = .ok (.getfield 7, 3) := by decide +kernel
theorem dX8_feed_91 : decode cX8_feed 91 = .ok (.iconst 3, 1) := by decide +kernel
theorem dX8_feed_92 : decode cX8_feed 92 = .ok (.iaload, 1) := by decide +kernel
theorem dX8_feed_93 : decode cX8_feed 93 = .ok (.ireturn, 1) := by decide +kernel
theorem dX8_look_0 : decode cX8_look 0 = .ok (.aload_n 0, 1) := by decide +kernel
theorem dX8_look_1 : decode cX8_look 1 = .ok (.getfield 69, 3) := by decide +kernel
theorem dX8_look_4 : decode cX8_look 4 = .ok (.aload_n 0, 1) := by decide +kernel
theorem dX8_look_5 : decode cX8_look 5 = .ok (.getfield 7, 3) := by decide +kernel
theorem dX8_look_8 : decode cX8_look 8 = .ok (.iconst 3, 1) := by decide +kernel
theorem dX8_look_9 : decode cX8_look 9 = .ok (.iaload, 1) := by decide +kernel
theorem dX8_look_10 : decode cX8_look 10 = .ok (.if_icmp .ge 19, 3) := by decide +kernel
theorem dX8_look_13 : decode cX8_look 13 = .ok (.aload_n 0, 1) := by decide +kernel
theorem dX8_look_14 : decode cX8_look 14 = .ok (.getfield 7, 3) := by decide +kernel
theorem dX8_look_17 : decode cX8_look 17 = .ok (.sipush 310, 3) := by decide +kernel
theorem dX8_look_20 : decode cX8_look 20 = .ok (.aload_n 0, 1) := by decide +kernel
theorem dX8_look_21 : decode cX8_look 21 = .ok (.getfield 69, 3) := by decide +kernel
theorem dX8_look_24 : decode cX8_look 24 = .ok (.iadd, 1) := by decide +kernel
theorem dX8_look_25 : decode cX8_look 25 = .ok (.iaload, 1) := by decide +kernel
theorem dX8_look_26 : decode cX8_look 26 = .ok (.goto 4, 3) := by decide +kernel
theorem dX8_look_29 : decode cX8_look 29 = .ok (.iconst (-1), 1) := by decide +kernel
theorem dX8_look_30 : decode cX8_look 30 = .ok (.ireturn, 1) := by decide +kernel
theorem dX8_isName_0 : decode cX8_isName 0 = .ok (.iload_n 1, 1) := by decide +kernel
theorem dX8_isName_1 : decode cX8_isName 1 = .ok (.bipush 100, 2) := by decide +kernel
theorem dX8_isName_3 : decode cX8_isName 3 = .ok (.if_icmp .ne 5, 3) := by decide +kernel
theorem dX8_isName_6 : decode cX8_isName 6 = .ok (.iconst 1, 1) := by decide +kernel
theorem dX8_isName_7 : decode cX8_isName 7 = .ok (.ireturn, 1) := by decide +kernel
theorem dX8_isName_8 : decode cX8_isName 8 = .ok (.aload_n 0, 1) := by decide +kernel
theorem dX8_isName_9 : decode cX8_isName 9 = .ok (.getfield 73, 3) := by decide +kernel
theorem dX8_isName_12 : decode cX8_isName 12 = .ok (.ifCond .ne 23, 3) := by decide +kernel
theorem dX8_isName_15 : decode cX8_isName 15 = .ok (.iload_n 1, 1) := by decide +kernel
theorem dX8_isName_16 : decode cX8_isName 16 = .ok (.bipush 103, 2) := by decide +kernel
theorem dX8_isName_18 : decode cX8_isName 18 = .ok (.if_icmp .eq 9, 3) := by decide +kernel
theorem dX8_isName_21 : decode cX8_isName 21 = .ok (.iload_n 1, 1) := by decide +kernel
theorem dX8_isName_22 : decode cX8_isName 22 = .ok (.bipush 104, 2) := by decide +kernel
theorem dX8_isName_24 : decode cX8_isName 24 = .ok (.if_icmp .ne 7, 3) := by decide +kernel
theorem dX8_isName_27 : decode cX8_isName 27 = .ok (.iconst 1, 1) := by decide +kernel
theorem dX8_isName_28 : decode cX8_isName 28 = .ok (.goto 24, 3) := by decide +kernel
theorem dX8_isName_31 : decode cX8_isName 31 = .ok (.iconst 0, 1) := by decide +kernel
theorem dX8_isName_32 : decode cX8_isName 32 = .ok (.goto 20, 3) := by decide +kernel
theorem dX8_isName_35 : decode cX8_isName 35 = .ok (.iload_n 1, 1) := by decide +kernel
theorem dX8_isName_36 : decode cX8_isName 36 = .ok (.bipush 112, 2) := by decide +kernel
theorem dX8_isName_38 : decode cX8_isName 38 = .ok (.if_icmp .eq 9, 3) := by decide +kernel
theorem dX8_isName_41 : decode cX8_isName 41 = .ok (.iload_n 1, 1) := by decide +kernel
theorem dX8_isName_42 : decode cX8_isName 42 = .ok (.bipush 115, 2) := by decide +kernel
theorem dX8_isName_44 : decode cX8_isName 44 = .ok (.if_icmp .ne 7, 3) := by decide +kernel
theorem dX8_isName_47 : decode cX8_isName 47 = .ok (.iconst 1, 1) := by decide +kernel
theorem dX8_isName_48 : decode cX8_isName 48 = .ok (.goto 4, 3) := by decide +kernel
theorem dX8_isName_51 : decode cX8_isName 51 = .ok (.iconst 0, 1) := by decide +kernel
theorem dX8_isName_52 : decode cX8_isName 52 = .ok (.ireturn, 1) := by decide +kernel
theorem dX8_step1_0 : decode cX8_step1 0 = .ok (.aload_n 0, 1) := by decide +kernel
theorem dX8_step1_1 : decode cX8_step1 1 = .ok (.getfield 22, 3) := by decide +kernel
theorem dX8_step1_4 : decode cX8_step1 4 = .ok (.iconst 2, 1) := by decide +kernel
theorem dX8_step1_5 : decode cX8_step1 5 = .ok (.aload_n 0, 1) := by decide +kernel
theorem dX8_step1_6 : decode cX8_step1 6 = .ok (.getfield 76, 3) := by decide +kernel
theorem dX8_step1_9 : decode cX8_step1 9 = .ok (.imul, 1) := by decide +kernel
theorem dX8_step1_10 : decode cX8_step1 10 = .ok (.iload_n 1, 1) := by decide +kernel
theorem dX8_step1_11 : decode cX8_step1 11 = .ok (.iastore, 1) := by decide +kernel
theorem dX8_step1_12 : decode cX8_step1 12 = .ok (.aload_n 0, 1) := by decide +kernel
theorem dX8_step1_13 : decode cX8_step1 13 = .ok (.getfield 22, 3) := by decide +kernel
theorem dX8_step1_16 : decode cX8_step1 16 = .ok (.iconst 2, 1) := by decide +kernel
theorem dX8_step1_17 : decode cX8_step1 17 = .ok (.aload_n 0, 1) := by decide +kernel
theorem dX8_step1_18 : decode cX8_step1 18 = .ok (.getfield 76, 3) := by decide +kernel
theorem dX8_step1_21 : decode cX8_step1 21 = .ok (.imul, 1) := by decide +kernel
theorem dX8_step1_22 : decode cX8_step1 22 = .ok (.iconst 1, 1) := by decide +kernel
theorem dX8_step1_23 : decode cX8_step1 23 = .ok (.iadd, 1) := by decide +kernel
theorem dX8_step1_24 : decode cX8_step1 24 = .ok (.iload_n 2, 1) := by decide +kernel
theorem dX8_step1_25 : decode cX8_step1 25 = .ok (.iastore, 1) := by decide +kernel
theorem dX8_step1_26 : decode cX8_step1 26 = .ok (.aload_n 0, 1) := by decide +kernel
theorem dX8_step1_27 : decode cX8_step1 27 = .ok (.dup, 1) := by decide +kernel
theorem dX8_step1_28 : decode cX8_step1 28 = .ok (.getfield 76, 3) := by decide +kernel
theorem dX8_step1_31 : decode cX8_step1 31 = .ok (.iconst 1, 1) := by decide +kernel
theorem dX8_step1_32 : decode cX8_step1 32 = .ok (.iadd, 1) := by decide +kernel
theorem dX8_step1_33 : decode cX8_step1 33 = .ok (.putfield 76, 3) := by decide +kernel
theorem dX8_step1_36 : decode cX8_step1 36 = .ok (.return_, 1) := by decide +kernel
theorem dX8_whole_0 : decode cX8_whole 0 = .ok (.aload_n 0, 1) := by decide +kernel
theorem dX8_whole_1 : decode cX8_whole 1 = .ok (.invokevirtual 79, 3) := by decide +kernel
theorem dX8_whole_4 : decode cX8_whole 4 = .ok (.ifCond .ne 5, 3) := by decide +kernel
theorem dX8_whole_7 : decode cX8_whole 7 = .ok (.iconst 0, 1) := by decide +kernel
theorem dX8_whole_8 : decode cX8_whole 8 = .ok (.ireturn, 1) := by decide +kernel
theorem dX8_whole_9 : decode cX8_whole 9 = .ok (.aload_n 0, 1) := by decide +kernel
theorem dX8_whole_10 : decode cX8_whole 10 = .ok (.invokevirtual 83, 3) := by decide +kernel
theorem dX8_whole_13 : decode cX8_whole 13 = .ok (.bipush 124, 2) := by decide +kernel
theorem dX8_whole_15 : decode cX8_whole 15 = .ok (.if_icmp .ne 32, 3) := by decide +kernel
theorem dX8_whole_18 : decode cX8_whole 18 = .ok (.aload_n 0, 1) := by decide +kernel
theorem dX8_whole_19 : decode cX8_whole 19 = .ok (.dup, 1) := by decide +kernel
theorem dX8_whole_20 : decode cX8_whole 20 = .ok (.getfield 69, 3) := by decide +kernel
theorem dX8_whole_23 : decode cX8_whole 23 = .ok (.iconst 1, 1) := by decide +kernel
theorem dX8_whole_24 : decode cX8_whole 24 = .ok (.iadd, 1) := by decide +kernel
theorem dX8_whole_25 : decode cX8_whole 25 = .ok (.putfield 69, 3) := by decide +kernel
theorem dX8_whole_28 : decode cX8_whole 28 = .ok (.aload_n 0, 1) := by decide +kernel
theorem dX8_whole_29 : decode cX8_whole 29 = .ok (.invokevirtual 79, 3) := by decide +kernel
theorem dX8_whole_32 : decode cX8_whole 32 = .ok (.ifCond .ne 5, 3) := by decide +kernel
theorem dX8_whole_35 : decode cX8_whole 35 = .ok (.iconst 0, 1) := by decide +kernel
theorem dX8_whole_36 : decode cX8_whole 36 = .ok (.ireturn, 1) := by decide +kernel
theorem dX8_whole_37 : decode cX8_whole 37 = .ok (.aload_n 0, 1) := by decide +kernel
theorem dX8_whole_38 : decode cX8_whole 38 = .ok (.iconst 3, 1) := by decide +kernel
theorem dX8_whole_39 : decode cX8_whole 39 = .ok (.bipush 124, 2) := by decide +kernel
theorem dX8_whole_41 : decode cX8_whole 41 = .ok (.invokevirtual 87, 3) := by decide +kernel
theorem dX8_whole_44 : decode cX8_whole 44 = .ok (.goto (-35), 3) := by decide +kernel
theorem dX8_whole_47 : decode cX8_whole 47 = .ok (.iconst 1, 1) := by decide +kernel
theorem dX8_whole_48 : decode cX8_whole 48 = .ok (.ireturn, 1) := by decide +kernel
theorem dX8_both_0 : decode cX8_both 0 = .ok (.aload_n 0, 1) := by decide +kernel
theorem dX8_both_1 : decode cX8_both 1 = .ok (.invokevirtual 91, 3) := by decide +kernel
theorem dX8_both_4 : decode cX8_both 4 = .ok (.ifCond .ne 5, 3) := by decide +kernel
theorem dX8_both_7 : decode cX8_both 7 = .ok (.iconst 0, 1) := by decide +kernel
theorem dX8_both_8 : decode cX8_both 8 = .ok (.ireturn, 1) := by decide +kernel
theorem dX8_both_9 : decode cX8_both 9 = .ok (.aload_n 0, 1) := by decide +kernel
theorem dX8_both_10 : decode cX8_both 10 = .ok (.invokevirtual 83, 3) := by decide +kernel
theorem dX8_both_13 : decode cX8_both 13 = .ok (.bipush 38, 2) := by decide +kernel
theorem dX8_both_15 : decode cX8_both 15 = .ok (.if_icmp .ne 32, 3) := by decide +kernel
theorem dX8_both_18 : decode cX8_both 18 = .ok (.aload_n 0, 1) := by decide +kernel
theorem dX8_both_19 : decode cX8_both 19 = .ok (.dup, 1) := by decide +kernel
theorem dX8_both_20 : decode cX8_both 20 = .ok (.getfield 69, 3) := by decide +kernel
theorem dX8_both_23 : decode cX8_both 23 = .ok (.iconst 1, 1) := by decide +kernel
theorem dX8_both_24 : decode cX8_both 24 = .ok (.iadd, 1) := by decide +kernel
theorem dX8_both_25 : decode cX8_both 25 = .ok (.putfield 69, 3) := by decide +kernel
theorem dX8_both_28 : decode cX8_both 28 = .ok (.aload_n 0, 1) := by decide +kernel
theorem dX8_both_29 : decode cX8_both 29 = .ok (.invokevirtual 91, 3) := by decide +kernel
theorem dX8_both_32 : decode cX8_both 32 = .ok (.ifCond .ne 5, 3) := by decide +kernel
theorem dX8_both_35 : decode cX8_both 35 = .ok (.iconst 0, 1) := by decide +kernel
theorem dX8_both_36 : decode cX8_both 36 = .ok (.ireturn, 1) := by decide +kernel
theorem dX8_both_37 : decode cX8_both 37 = .ok (.aload_n 0, 1) := by decide +kernel
theorem dX8_both_38 : decode cX8_both 38 = .ok (.iconst 3, 1) := by decide +kernel
theorem dX8_both_39 : decode cX8_both 39 = .ok (.bipush 38, 2) := by decide +kernel
theorem dX8_both_41 : decode cX8_both 41 = .ok (.invokevirtual 87, 3) := by decide +kernel
theorem dX8_both_44 : decode cX8_both 44 = .ok (.goto (-35), 3) := by decide +kernel
theorem dX8_both_47 : decode cX8_both 47 = .ok (.iconst 1, 1) := by decide +kernel
theorem dX8_both_48 : decode cX8_both 48 = .ok (.ireturn, 1) := by decide +kernel
theorem dX8_compared_0 : decode cX8_compared 0 = .ok (.aload_n 0, 1) := by decide +kernel
theorem dX8_compared_1 : decode cX8_compared 1 = .ok (.invokevirtual 94, 3) := by decide +kernel
theorem dX8_compared_4 : decode cX8_compared 4 = .ok (.ifCond .ne 5, 3) := by decide +kernel
theorem dX8_compared_7 : decode cX8_compared 7 = .ok (.iconst 0, 1) := by decide +kernel
theorem dX8_compared_8 : decode cX8_compared 8 = .ok (.ireturn, 1) := by decide +kernel
theorem dX8_compared_9 : decode cX8_compared 9 = .ok (.aload_n 0, 1) := by decide +kernel
theorem dX8_compared_10 : decode cX8_compared 10 = .ok (.invokevirtual 83, 3) := by decide +kernel
theorem dX8_compared_13 : decode cX8_compared 13 = .ok (.istore_n 1, 1) := by decide +kernel
theorem dX8_compared_14 : decode cX8_compared 14 = .ok (.iload_n 1, 1) := by decide +kernel
theorem dX8_compared_15 : decode cX8_compared 15 = .ok (.bipush 60, 2) := by decide +kernel
theorem dX8_compared_17 : decode cX8_compared 17 = .ok (.if_icmp .eq 17, 3) := by decide +kernel
theorem dX8_compared_20 : decode cX8_compared 20 = .ok (.iload_n 1, 1) := by decide +kernel
theorem dX8_compared_21 : decode cX8_compared 21 = .ok (.bipush 61, 2) := by decide +kernel
theorem dX8_compared_23 : decode cX8_compared 23 = .ok (.if_icmp .eq 11, 3) := by decide +kernel
theorem dX8_compared_26 : decode cX8_compared 26 = .ok (.iload_n 1, 1) := by decide +kernel
theorem dX8_compared_27 : decode cX8_compared 27 = .ok (.bipush 62, 2) := by decide +kernel
theorem dX8_compared_29 : decode cX8_compared 29 = .ok (.if_icmp .eq 5, 3) := by decide +kernel
theorem dX8_compared_32 : decode cX8_compared 32 = .ok (.iconst 1, 1) := by decide +kernel
theorem dX8_compared_33 : decode cX8_compared 33 = .ok (.ireturn, 1) := by decide +kernel
theorem dX8_compared_34 : decode cX8_compared 34 = .ok (.aload_n 0, 1) := by decide +kernel
theorem dX8_compared_35 : decode cX8_compared 35 = .ok (.dup, 1) := by decide +kernel
theorem dX8_compared_36 : decode cX8_compared 36 = .ok (.getfield 69, 3) := by decide +kernel
theorem dX8_compared_39 : decode cX8_compared 39 = .ok (.iconst 1, 1) := by decide +kernel
theorem dX8_compared_40 : decode cX8_compared 40 = .ok (.iadd, 1) := by decide +kernel
theorem dX8_compared_41 : decode cX8_compared 41 = .ok (.putfield 69, 3) := by decide +kernel
theorem dX8_compared_44 : decode cX8_compared 44 = .ok (.aload_n 0, 1) := by decide +kernel
theorem dX8_compared_45 : decode cX8_compared 45 = .ok (.invokevirtual 94, 3) := by decide +kernel
theorem dX8_compared_48 : decode cX8_compared 48 = .ok (.ifCond .ne 5, 3) := by decide +kernel
theorem dX8_compared_51 : decode cX8_compared 51 = .ok (.iconst 0, 1) := by decide +kernel
theorem dX8_compared_52 : decode cX8_compared 52 = .ok (.ireturn, 1) := by decide +kernel
theorem dX8_compared_53 : decode cX8_compared 53 = .ok (.aload_n 0, 1) := by decide +kernel
theorem dX8_compared_54 : decode cX8_compared 54 = .ok (.iconst 3, 1) := by decide +kernel
theorem dX8_compared_55 : decode cX8_compared 55 = .ok (.iload_n 1, 1) := by decide +kernel
theorem dX8_compared_56 : decode cX8_compared 56 = .ok (.invokevirtual 87, 3) := by decide +kernel
theorem dX8_compared_59 : decode cX8_compared 59 = .ok (.iconst 1, 1) := by decide +kernel
theorem dX8_compared_60 : decode cX8_compared 60 = .ok (.ireturn, 1) := by decide +kernel
theorem dX8_sum_0 : decode cX8_sum 0 = .ok (.aload_n 0, 1) := by decide +kernel
theorem dX8_sum_1 : decode cX8_sum 1 = .ok (.invokevirtual 97, 3) := by decide +kernel
theorem dX8_sum_4 : decode cX8_sum 4 = .ok (.ifCond .ne 5, 3) := by decide +kernel
theorem dX8_sum_7 : decode cX8_sum 7 = .ok (.iconst 0, 1) := by decide +kernel
theorem dX8_sum_8 : decode cX8_sum 8 = .ok (.ireturn, 1) := by decide +kernel
theorem dX8_sum_9 : decode cX8_sum 9 = .ok (.aload_n 0, 1) := by decide +kernel
theorem dX8_sum_10 : decode cX8_sum 10 = .ok (.invokevirtual 83, 3) := by decide +kernel
theorem dX8_sum_13 : decode cX8_sum 13 = .ok (.bipush 43, 2) := by decide +kernel
theorem dX8_sum_15 : decode cX8_sum 15 = .ok (.if_icmp .eq 12, 3) := by decide +kernel
theorem dX8_sum_18 : decode cX8_sum 18 = .ok (.aload_n 0, 1) := by decide +kernel
theorem dX8_sum_19 : decode cX8_sum 19 = .ok (.invokevirtual 83, 3) := by decide +kernel
theorem dX8_sum_22 : decode cX8_sum 22 = .ok (.bipush 45, 2) := by decide +kernel
theorem dX8_sum_24 : decode cX8_sum 24 = .ok (.if_icmp .ne 36, 3) := by decide +kernel
theorem dX8_sum_27 : decode cX8_sum 27 = .ok (.aload_n 0, 1) := by decide +kernel
theorem dX8_sum_28 : decode cX8_sum 28 = .ok (.invokevirtual 83, 3) := by decide +kernel
theorem dX8_sum_31 : decode cX8_sum 31 = .ok (.istore_n 1, 1) := by decide +kernel
theorem dX8_sum_32 : decode cX8_sum 32 = .ok (.aload_n 0, 1) := by decide +kernel
theorem dX8_sum_33 : decode cX8_sum 33 = .ok (.dup, 1) := by decide +kernel
theorem dX8_sum_34 : decode cX8_sum 34 = .ok (.getfield 69, 3) := by decide +kernel
theorem dX8_sum_37 : decode cX8_sum 37 = .ok (.iconst 1, 1) := by decide +kernel
theorem dX8_sum_38 : decode cX8_sum 38 = .ok (.iadd, 1) := by decide +kernel
theorem dX8_sum_39 : decode cX8_sum 39 = .ok (.putfield 69, 3) := by decide +kernel
theorem dX8_sum_42 : decode cX8_sum 42 = .ok (.aload_n 0, 1) := by decide +kernel
theorem dX8_sum_43 : decode cX8_sum 43 = .ok (.invokevirtual 97, 3) := by decide +kernel
theorem dX8_sum_46 : decode cX8_sum 46 = .ok (.ifCond .ne 5, 3) := by decide +kernel
theorem dX8_sum_49 : decode cX8_sum 49 = .ok (.iconst 0, 1) := by decide +kernel
theorem dX8_sum_50 : decode cX8_sum 50 = .ok (.ireturn, 1) := by decide +kernel
theorem dX8_sum_51 : decode cX8_sum 51 = .ok (.aload_n 0, 1) := by decide +kernel
theorem dX8_sum_52 : decode cX8_sum 52 = .ok (.iconst 3, 1) := by decide +kernel
theorem dX8_sum_53 : decode cX8_sum 53 = .ok (.iload_n 1, 1) := by decide +kernel
theorem dX8_sum_54 : decode cX8_sum 54 = .ok (.invokevirtual 87, 3) := by decide +kernel
theorem dX8_sum_57 : decode cX8_sum 57 = .ok (.goto (-48), 3) := by decide +kernel
theorem dX8_sum_60 : decode cX8_sum 60 = .ok (.iconst 1, 1) := by decide +kernel
theorem dX8_sum_61 : decode cX8_sum 61 = .ok (.ireturn, 1) := by decide +kernel
theorem dX8_product_0 : decode cX8_product 0 = .ok (.aload_n 0, 1) := by decide +kernel
theorem dX8_product_1 : decode cX8_product 1 = .ok (.invokevirtual 100, 3) := by decide +kernel
theorem dX8_product_4 : decode cX8_product 4 = .ok (.ifCond .ne 5, 3) := by decide +kernel
theorem dX8_product_7 : decode cX8_product 7 = .ok (.iconst 0, 1) := by decide +kernel
theorem dX8_product_8 : decode cX8_product 8 = .ok (.ireturn, 1) := by decide +kernel
theorem dX8_product_9 : decode cX8_product 9 = .ok (.aload_n 0, 1) := by decide +kernel
theorem dX8_product_10 : decode cX8_product 10 = .ok (.invokevirtual 83, 3) := by decide +kernel
theorem dX8_product_13 : decode cX8_product 13 = .ok (.bipush 42, 2) := by decide +kernel
theorem dX8_product_15 : decode cX8_product 15 = .ok (.if_icmp .eq 21, 3) := by decide +kernel
theorem dX8_product_18 : decode cX8_product 18 = .ok (.aload_n 0, 1) := by decide +kernel
theorem dX8_product_19 : decode cX8_product 19 = .ok (.invokevirtual 83, 3) := by decide +kernel
theorem dX8_product_22 : decode cX8_product 22 = .ok (.bipush 47, 2) := by decide +kernel
theorem dX8_product_24 : decode cX8_product 24 = .ok (.if_icmp .eq 12, 3) := by decide +kernel
theorem dX8_product_27 : decode cX8_product 27 = .ok (.aload_n 0, 1) := by decide +kernel
theorem dX8_product_28 : decode cX8_product 28 = .ok (.invokevirtual 83, 3) := by decide +kernel
theorem dX8_product_31 : decode cX8_product 31 = .ok (.bipush 37, 2) := by decide +kernel
theorem dX8_product_33 : decode cX8_product 33 = .ok (.if_icmp .ne 36, 3) := by decide +kernel
theorem dX8_product_36 : decode cX8_product 36 = .ok (.aload_n 0, 1) := by decide +kernel
theorem dX8_product_37 : decode cX8_product 37 = .ok (.invokevirtual 83, 3) := by decide +kernel
theorem dX8_product_40 : decode cX8_product 40 = .ok (.istore_n 1, 1) := by decide +kernel
theorem dX8_product_41 : decode cX8_product 41 = .ok (.aload_n 0, 1) := by decide +kernel
theorem dX8_product_42 : decode cX8_product 42 = .ok (.dup, 1) := by decide +kernel
theorem dX8_product_43 : decode cX8_product 43 = .ok (.getfield 69, 3) := by decide +kernel
theorem dX8_product_46 : decode cX8_product 46 = .ok (.iconst 1, 1) := by decide +kernel
theorem dX8_product_47 : decode cX8_product 47 = .ok (.iadd, 1) := by decide +kernel
theorem dX8_product_48 : decode cX8_product 48 = .ok (.putfield 69, 3) := by decide +kernel
theorem dX8_product_51 : decode cX8_product 51 = .ok (.aload_n 0, 1) := by decide +kernel
theorem dX8_product_52 : decode cX8_product 52 = .ok (.invokevirtual 100, 3) := by decide +kernel
theorem dX8_product_55 : decode cX8_product 55 = .ok (.ifCond .ne 5, 3) := by decide +kernel
theorem dX8_product_58 : decode cX8_product 58 = .ok (.iconst 0, 1) := by decide +kernel
theorem dX8_product_59 : decode cX8_product 59 = .ok (.ireturn, 1) := by decide +kernel
theorem dX8_product_60 : decode cX8_product 60 = .ok (.aload_n 0, 1) := by decide +kernel
theorem dX8_product_61 : decode cX8_product 61 = .ok (.iconst 3, 1) := by decide +kernel
theorem dX8_product_62 : decode cX8_product 62 = .ok (.iload_n 1, 1) := by decide +kernel
theorem dX8_product_63 : decode cX8_product 63 = .ok (.invokevirtual 87, 3) := by decide +kernel
theorem dX8_product_66 : decode cX8_product 66 = .ok (.goto (-57), 3) := by decide +kernel
theorem dX8_product_69 : decode cX8_product 69 = .ok (.iconst 1, 1) := by decide +kernel
theorem dX8_product_70 : decode cX8_product 70 = .ok (.ireturn, 1) := by decide +kernel
theorem dX8_opens_0 : decode cX8_opens 0 = .ok (.aload_n 0, 1) := by decide +kernel
theorem dX8_opens_1 : decode cX8_opens 1 = .ok (.getfield 103, 3) := by decide +kernel
theorem dX8_opens_4 : decode cX8_opens 4 = .ok (.iconst 5, 1) := by decide +kernel
theorem dX8_opens_5 : decode cX8_opens 5 = .ok (.if_icmp .ne 5, 3) := by decide +kernel
theorem dX8_opens_8 : decode cX8_opens 8 = .ok (.iconst 0, 1) := by decide +kernel
theorem dX8_opens_9 : decode cX8_opens 9 = .ok (.ireturn, 1) := by decide +kernel
theorem dX8_opens_10 : decode cX8_opens 10 = .ok (.aload_n 0, 1) := by decide +kernel
theorem dX8_opens_11 : decode cX8_opens 11 = .ok (.dup, 1) := by decide +kernel
theorem dX8_opens_12 : decode cX8_opens 12 = .ok (.getfield 103, 3) := by decide +kernel
theorem dX8_opens_15 : decode cX8_opens 15 = .ok (.iconst 1, 1) := by decide +kernel
theorem dX8_opens_16 : decode cX8_opens 16 = .ok (.iadd, 1) := by decide +kernel
theorem dX8_opens_17 : decode cX8_opens 17 = .ok (.putfield 103, 3) := by decide +kernel
theorem dX8_opens_20 : decode cX8_opens 20 = .ok (.aload_n 0, 1) := by decide +kernel
theorem dX8_opens_21 : decode cX8_opens 21 = .ok (.dup, 1) := by decide +kernel
theorem dX8_opens_22 : decode cX8_opens 22 = .ok (.getfield 69, 3) := by decide +kernel
theorem dX8_opens_25 : decode cX8_opens 25 = .ok (.iconst 1, 1) := by decide +kernel
theorem dX8_opens_26 : decode cX8_opens 26 = .ok (.iadd, 1) := by decide +kernel
theorem dX8_opens_27 : decode cX8_opens 27 = .ok (.putfield 69, 3) := by decide +kernel
theorem dX8_opens_30 : decode cX8_opens 30 = .ok (.iconst 1, 1) := by decide +kernel
theorem dX8_opens_31 : decode cX8_opens 31 = .ok (.ireturn, 1) := by decide +kernel
theorem dX8_one_0 : decode cX8_one 0 = .ok (.aload_n 0, 1) := by decide +kernel
theorem dX8_one_1 : decode cX8_one 1 = .ok (.invokevirtual 83, 3) := by decide +kernel
theorem dX8_one_4 : decode cX8_one 4 = .ok (.istore_n 1, 1) := by decide +kernel
theorem dX8_one_5 : decode cX8_one 5 = .ok (.aload_n 0, 1) := by decide +kernel
theorem dX8_one_6 : decode cX8_one 6 = .ok (.iload_n 1, 1) := by decide +kernel
theorem dX8_one_7 : decode cX8_one 7 = .ok (.invokevirtual 106, 3) := by decide +kernel
theorem dX8_one_10 : decode cX8_one 10 = .ok (.ifCond .eq 21, 3) := by decide +kernel
theorem dX8_one_13 : decode cX8_one 13 = .ok (.aload_n 0, 1) := by decide +kernel
theorem dX8_one_14 : decode cX8_one 14 = .ok (.dup, 1) := by decide +kernel
theorem dX8_one_15 : decode cX8_one 15 = .ok (.getfield 69, 3) := by decide +kernel
theorem dX8_one_18 : decode cX8_one 18 = .ok (.iconst 1, 1) := by decide +kernel
theorem dX8_one_19 : decode cX8_one 19 = .ok (.iadd, 1) := by decide +kernel
theorem dX8_one_20 : decode cX8_one 20 = .ok (.putfield 69, 3) := by decide +kernel
theorem dX8_one_23 : decode cX8_one 23 = .ok (.aload_n 0, 1) := by decide +kernel
theorem dX8_one_24 : decode cX8_one 24 = .ok (.iconst 1, 1) := by decide +kernel
theorem dX8_one_25 : decode cX8_one 25 = .ok (.iload_n 1, 1) := by decide +kernel
theorem dX8_one_26 : decode cX8_one 26 = .ok (.invokevirtual 87, 3) := by decide +kernel
theorem dX8_one_29 : decode cX8_one 29 = .ok (.iconst 1, 1) := by decide +kernel
theorem dX8_one_30 : decode cX8_one 30 = .ok (.ireturn, 1) := by decide +kernel
theorem dX8_one_31 : decode cX8_one 31 = .ok (.iload_n 1, 1) := by decide +kernel
theorem dX8_one_32 : decode cX8_one 32 = .ok (.bipush 48, 2) := by decide +kernel
theorem dX8_one_34 : decode cX8_one 34 = .ok (.bipush 57, 2) := by decide +kernel
theorem dX8_one_36 : decode cX8_one 36 = .ok (.invokestatic 59, 3) := by decide +kernel
theorem dX8_one_39 : decode cX8_one 39 = .ok (.ifCond .eq 63, 3) := by decide +kernel
theorem dX8_one_42 : decode cX8_one 42 = .ok (.iconst 0, 1) := by decide +kernel
theorem dX8_one_43 : decode cX8_one 43 = .ok (.istore_n 2, 1) := by decide +kernel
theorem dX8_one_44 : decode cX8_one 44 = .ok (.iconst 0, 1) := by decide +kernel
theorem dX8_one_45 : decode cX8_one 45 = .ok (.istore_n 3, 1) := by decide +kernel
theorem dX8_one_46 : decode cX8_one 46 = .ok (.iload_n 3, 1) := by decide +kernel
theorem dX8_one_47 : decode cX8_one 47 = .ok (.iconst 4, 1) := by decide +kernel
theorem dX8_one_48 : decode cX8_one 48 = .ok (.if_icmp .ge 46, 3) := by decide +kernel
theorem dX8_one_51 : decode cX8_one 51 = .ok (.aload_n 0, 1) := by decide +kernel
theorem dX8_one_52 : decode cX8_one 52 = .ok (.invokevirtual 83, 3) := by decide +kernel
theorem dX8_one_55 : decode cX8_one 55 = .ok (.bipush 48, 2) := by decide +kernel
theorem dX8_one_57 : decode cX8_one 57 = .ok (.bipush 57, 2) := by decide +kernel
theorem dX8_one_59 : decode cX8_one 59 = .ok (.invokestatic 59, 3) := by decide +kernel
theorem dX8_one_62 : decode cX8_one 62 = .ok (.ifCond .eq 32, 3) := by decide +kernel
theorem dX8_one_65 : decode cX8_one 65 = .ok (.bipush 10, 2) := by decide +kernel
theorem dX8_one_67 : decode cX8_one 67 = .ok (.iload_n 2, 1) := by decide +kernel
theorem dX8_one_68 : decode cX8_one 68 = .ok (.imul, 1) := by decide +kernel
theorem dX8_one_69 : decode cX8_one 69 = .ok (.aload_n 0, 1) := by decide +kernel
theorem dX8_one_70 : decode cX8_one 70 = .ok (.invokevirtual 83, 3) := by decide +kernel
theorem dX8_one_73 : decode cX8_one 73 = .ok (.iadd, 1) := by decide +kernel
theorem dX8_one_74 : decode cX8_one 74 = .ok (.bipush 48, 2) := by decide +kernel
theorem dX8_one_76 : decode cX8_one 76 = .ok (.isub, 1) := by decide +kernel
theorem dX8_one_77 : decode cX8_one 77 = .ok (.istore_n 2, 1) := by decide +kernel
theorem dX8_one_78 : decode cX8_one 78 = .ok (.aload_n 0, 1) := by decide +kernel
theorem dX8_one_79 : decode cX8_one 79 = .ok (.dup, 1) := by decide +kernel
theorem dX8_one_80 : decode cX8_one 80 = .ok (.getfield 69, 3) := by decide +kernel
theorem dX8_one_83 : decode cX8_one 83 = .ok (.iconst 1, 1) := by decide +kernel
theorem dX8_one_84 : decode cX8_one 84 = .ok (.iadd, 1) := by decide +kernel
theorem dX8_one_85 : decode cX8_one 85 = .ok (.putfield 69, 3) := by decide +kernel
theorem dX8_one_88 : decode cX8_one 88 = .ok (.iinc 3 1, 3) := by decide +kernel
theorem dX8_one_91 : decode cX8_one 91 = .ok (.goto (-45), 3) := by decide +kernel
theorem dX8_one_94 : decode cX8_one 94 = .ok (.aload_n 0, 1) := by decide +kernel
theorem dX8_one_95 : decode cX8_one 95 = .ok (.iconst 0, 1) := by decide +kernel
theorem dX8_one_96 : decode cX8_one 96 = .ok (.iload_n 2, 1) := by decide +kernel
theorem dX8_one_97 : decode cX8_one 97 = .ok (.invokevirtual 87, 3) := by decide +kernel
theorem dX8_one_100 : decode cX8_one 100 = .ok (.iconst 1, 1) := by decide +kernel
theorem dX8_one_101 : decode cX8_one 101 = .ok (.ireturn, 1) := by decide +kernel
theorem dX8_one_102 : decode cX8_one 102 = .ok (.iload_n 1, 1) := by decide +kernel
theorem dX8_one_103 : decode cX8_one 103 = .ok (.bipush 33, 2) := by decide +kernel
theorem dX8_one_105 : decode cX8_one 105 = .ok (.if_icmp .ne 37, 3) := by decide +kernel
theorem dX8_one_108 : decode cX8_one 108 = .ok (.aload_n 0, 1) := by decide +kernel
theorem dX8_one_109 : decode cX8_one 109 = .ok (.invokevirtual 110, 3) := by decide +kernel
theorem dX8_one_112 : decode cX8_one 112 = .ok (.ifCond .eq 10, 3) := by decide +kernel
theorem dX8_one_115 : decode cX8_one 115 = .ok (.aload_n 0, 1) := by decide +kernel
theorem dX8_one_116 : decode cX8_one 116 = .ok (.invokevirtual 100, 3) := by decide +kernel
theorem dX8_one_119 : decode cX8_one 119 = .ok (.ifCond .ne 5, 3) := by decide +kernel
theorem dX8_one_122 : decode cX8_one 122 = .ok (.iconst 0, 1) := by decide +kernel
theorem dX8_one_123 : decode cX8_one 123 = .ok (.ireturn, 1) := by decide +kernel
theorem dX8_one_124 : decode cX8_one 124 = .ok (.aload_n 0, 1) := by decide +kernel
theorem dX8_one_125 : decode cX8_one 125 = .ok (.dup, 1) := by decide +kernel
theorem dX8_one_126 : decode cX8_one 126 = .ok (.getfield 103, 3) := by decide +kernel
theorem dX8_one_129 : decode cX8_one 129 = .ok (.iconst 1, 1) := by decide +kernel
theorem dX8_one_130 : decode cX8_one 130 = .ok (.isub, 1) := by decide +kernel
theorem dX8_one_131 : decode cX8_one 131 = .ok (.putfield 103, 3) := by decide +kernel
theorem dX8_one_134 : decode cX8_one 134 = .ok (.aload_n 0, 1) := by decide +kernel
theorem dX8_one_135 : decode cX8_one 135 = .ok (.iconst 2, 1) := by decide +kernel
theorem dX8_one_136 : decode cX8_one 136 = .ok (.iconst 0, 1) := by decide +kernel
theorem dX8_one_137 : decode cX8_one 137 = .ok (.invokevirtual 87, 3) := by decide +kernel
theorem dX8_one_140 : decode cX8_one 140 = .ok (.iconst 1, 1) := by decide +kernel
theorem dX8_one_141 : decode cX8_one 141 = .ok (.ireturn, 1) := by decide +kernel
theorem dX8_one_142 : decode cX8_one 142 = .ok (.iload_n 1, 1) := by decide +kernel
theorem dX8_one_143 : decode cX8_one 143 = .ok (.bipush 40, 2) := by decide +kernel
theorem dX8_one_145 : decode cX8_one 145 = .ok (.if_icmp .ne 26, 3) := by decide +kernel
theorem dX8_one_148 : decode cX8_one 148 = .ok (.aload_n 0, 1) := by decide +kernel
theorem dX8_one_149 : decode cX8_one 149 = .ok (.invokevirtual 110, 3) := by decide +kernel
theorem dX8_one_152 : decode cX8_one 152 = .ok (.ifCond .eq 19, 3) := by decide +kernel
theorem dX8_one_155 : decode cX8_one 155 = .ok (.aload_n 0, 1) := by decide +kernel
theorem dX8_one_156 : decode cX8_one 156 = .ok (.invokevirtual 113, 3) := by decide +kernel
theorem dX8_one_159 : decode cX8_one 159 = .ok (.ifCond .eq 12, 3) := by decide +kernel
theorem dX8_one_162 : decode cX8_one 162 = .ok (.aload_n 0, 1) := by decide +kernel
theorem dX8_one_163 : decode cX8_one 163 = .ok (.invokevirtual 83, 3) := by decide +kernel
theorem dX8_one_166 : decode cX8_one 166 = .ok (.bipush 41, 2) := by decide +kernel
theorem dX8_one_168 : decode cX8_one 168 = .ok (.if_icmp .eq 5, 3) := by decide +kernel
theorem dX8_one_171 : decode cX8_one 171 = .ok (.iconst 0, 1) := by decide +kernel
theorem dX8_one_172 : decode cX8_one 172 = .ok (.ireturn, 1) := by decide +kernel
theorem dX8_one_173 : decode cX8_one 173 = .ok (.aload_n 0, 1) := by decide +kernel
theorem dX8_one_174 : decode cX8_one 174 = .ok (.dup, 1) := by decide +kernel
theorem dX8_one_175 : decode cX8_one 175 = .ok (.getfield 69, 3) := by decide +kernel
theorem dX8_one_178 : decode cX8_one 178 = .ok (.iconst 1, 1) := by decide +kernel
theorem dX8_one_179 : decode cX8_one 179 = .ok (.iadd, 1) := by decide +kernel
theorem dX8_one_180 : decode cX8_one 180 = .ok (.putfield 69, 3) := by decide +kernel
theorem dX8_one_183 : decode cX8_one 183 = .ok (.aload_n 0, 1) := by decide +kernel
theorem dX8_one_184 : decode cX8_one 184 = .ok (.dup, 1) := by decide +kernel
theorem dX8_one_185 : decode cX8_one 185 = .ok (.getfield 103, 3) := by decide +kernel
theorem dX8_one_188 : decode cX8_one 188 = .ok (.iconst 1, 1) := by decide +kernel
theorem dX8_one_189 : decode cX8_one 189 = .ok (.isub, 1) := by decide +kernel
theorem dX8_one_190 : decode cX8_one 190 = .ok (.putfield 103, 3) := by decide +kernel
theorem dX8_one_193 : decode cX8_one 193 = .ok (.iconst 1, 1) := by decide +kernel
theorem dX8_one_194 : decode cX8_one 194 = .ok (.ireturn, 1) := by decide +kernel
theorem dX8_hasText_0 : decode cX8_hasText 0 = .ok (.aload_n 0, 1) := by decide +kernel
theorem dX8_hasText_1 : decode cX8_hasText 1 = .ok (.getfield 7, 3) := by decide +kernel
theorem dX8_hasText_4 : decode cX8_hasText 4 = .ok (.bipush 60, 2) := by decide +kernel
theorem dX8_hasText_6 : decode cX8_hasText 6 = .ok (.bipush 125, 2) := by decide +kernel
theorem dX8_hasText_8 : decode cX8_hasText 8 = .ok (.iload_n 1, 1) := by decide +kernel
theorem dX8_hasText_9 : decode cX8_hasText 9 = .ok (.imul, 1) := by decide +kernel
theorem dX8_hasText_10 : decode cX8_hasText 10 = .ok (.iadd, 1) := by decide +kernel
theorem dX8_hasText_11 : decode cX8_hasText 11 = .ok (.iaload, 1) := by decide +kernel
theorem dX8_hasText_12 : decode cX8_hasText 12 = .ok (.ifCond .le 7, 3) := by decide +kernel
theorem dX8_hasText_15 : decode cX8_hasText 15 = .ok (.iconst 1, 1) := by decide +kernel
theorem dX8_hasText_16 : decode cX8_hasText 16 = .ok (.goto 4, 3) := by decide +kernel
theorem dX8_hasText_19 : decode cX8_hasText 19 = .ok (.iconst 0, 1) := by decide +kernel
theorem dX8_hasText_20 : decode cX8_hasText 20 = .ok (.ireturn, 1) := by decide +kernel
theorem dX8_text_0 : decode cX8_text 0 = .ok (.iload_n 1, 1) := by decide +kernel
theorem dX8_text_1 : decode cX8_text 1 = .ok (.iconst 0, 1) := by decide +kernel
theorem dX8_text_2 : decode cX8_text 2 = .ok (.iconst 1, 1) := by decide +kernel
theorem dX8_text_3 : decode cX8_text 3 = .ok (.invokestatic 59, 3) := by decide +kernel
theorem dX8_text_6 : decode cX8_text 6 = .ok (.ifCond .ne 9, 3) := by decide +kernel
theorem dX8_text_9 : decode cX8_text 9 = .ok (.aload_n 0, 1) := by decide +kernel
theorem dX8_text_10 : decode cX8_text 10 = .ok (.iconst 1, 1) := by decide +kernel
theorem dX8_text_11 : decode cX8_text 11 = .ok (.invokevirtual 63, 3) := by decide +kernel
theorem dX8_text_14 : decode cX8_text 14 = .ok (.ireturn, 1) := by decide +kernel
theorem dX8_text_15 : decode cX8_text 15 = .ok (.aload_n 0, 1) := by decide +kernel
theorem dX8_text_16 : decode cX8_text 16 = .ok (.iload_n 1, 1) := by decide +kernel
theorem dX8_text_17 : decode cX8_text 17 = .ok (.putfield 73, 3) := by decide +kernel
theorem dX8_text_20 : decode cX8_text 20 = .ok (.aload_n 0, 1) := by decide +kernel
theorem dX8_text_21 : decode cX8_text 21 = .ok (.iconst 0, 1) := by decide +kernel
theorem dX8_text_22 : decode cX8_text 22 = .ok (.putfield 69, 3) := by decide +kernel
theorem dX8_text_25 : decode cX8_text 25 = .ok (.aload_n 0, 1) := by decide +kernel
theorem dX8_text_26 : decode cX8_text 26 = .ok (.iconst 0, 1) := by decide +kernel
theorem dX8_text_27 : decode cX8_text 27 = .ok (.putfield 103, 3) := by decide +kernel
theorem dX8_text_30 : decode cX8_text 30 = .ok (.aload_n 0, 1) := by decide +kernel
theorem dX8_text_31 : decode cX8_text 31 = .ok (.iconst 0, 1) := by decide +kernel
theorem dX8_text_32 : decode cX8_text 32 = .ok (.putfield 76, 3) := by decide +kernel
theorem dX8_text_35 : decode cX8_text 35 = .ok (.aload_n 0, 1) := by decide +kernel
theorem dX8_text_36 : decode cX8_text 36 = .ok (.invokevirtual 113, 3) := by decide +kernel
theorem dX8_text_39 : decode cX8_text 39 = .ok (.ifCond .eq 20, 3) := by decide +kernel
theorem dX8_text_42 : decode cX8_text 42 = .ok (.aload_n 0, 1) := by decide +kernel
theorem dX8_text_43 : decode cX8_text 43 = .ok (.getfield 69, 3) := by decide +kernel
theorem dX8_text_46 : decode cX8_text 46 = .ok (.aload_n 0, 1) := by decide +kernel
theorem dX8_text_47 : decode cX8_text 47 = .ok (.getfield 7, 3) := by decide +kernel
theorem dX8_text_50 : decode cX8_text 50 = .ok (.iconst 3, 1) := by decide +kernel
theorem dX8_text_51 : decode cX8_text 51 = .ok (.iaload, 1) := by decide +kernel
theorem dX8_text_52 : decode cX8_text 52 = .ok (.if_icmp .ne 7, 3) := by decide +kernel
theorem dX8_text_55 : decode cX8_text 55 = .ok (.iconst 1, 1) := by decide +kernel
theorem dX8_text_56 : decode cX8_text 56 = .ok (.goto 4, 3) := by decide +kernel
theorem dX8_text_59 : decode cX8_text 59 = .ok (.iconst 0, 1) := by decide +kernel
theorem dX8_text_60 : decode cX8_text 60 = .ok (.istore_n 2, 1) := by decide +kernel
theorem dX8_text_61 : decode cX8_text 61 = .ok (.aload_n 0, 1) := by decide +kernel
theorem dX8_text_62 : decode cX8_text 62 = .ok (.getfield 7, 3) := by decide +kernel
theorem dX8_text_65 : decode cX8_text 65 = .ok (.iconst 3, 1) := by decide +kernel
theorem dX8_text_66 : decode cX8_text 66 = .ok (.iconst 0, 1) := by decide +kernel
theorem dX8_text_67 : decode cX8_text 67 = .ok (.iastore, 1) := by decide +kernel
theorem dX8_text_68 : decode cX8_text 68 = .ok (.iload_n 2, 1) := by decide +kernel
theorem dX8_text_69 : decode cX8_text 69 = .ok (.ifCond .ne 11, 3) := by decide +kernel
theorem dX8_text_72 : decode cX8_text 72 = .ok (.bipush (-10), 2) := by decide +kernel
theorem dX8_text_74 : decode cX8_text 74 = .ok (.aload_n 0, 1) := by decide +kernel
theorem dX8_text_75 : decode cX8_text 75 = .ok (.getfield 69, 3) := by decide +kernel
theorem dX8_text_78 : decode cX8_text 78 = .ok (.isub, 1) := by decide +kernel
theorem dX8_text_79 : decode cX8_text 79 = .ok (.ireturn, 1) := by decide +kernel
theorem dX8_text_80 : decode cX8_text 80 = .ok (.bipush 60, 2) := by decide +kernel
theorem dX8_text_82 : decode cX8_text 82 = .ok (.bipush 125, 2) := by decide +kernel
theorem dX8_text_84 : decode cX8_text 84 = .ok (.iload_n 1, 1) := by decide +kernel
theorem dX8_text_85 : decode cX8_text 85 = .ok (.imul, 1) := by decide +kernel
theorem dX8_text_86 : decode cX8_text 86 = .ok (.iadd, 1) := by decide +kernel
theorem dX8_text_87 : decode cX8_text 87 = .ok (.istore_n 3, 1) := by decide +kernel
theorem dX8_text_88 : decode cX8_text 88 = .ok (.aload_n 0, 1) := by decide +kernel
theorem dX8_text_89 : decode cX8_text 89 = .ok (.getfield 7, 3) := by decide +kernel
theorem dX8_text_92 : decode cX8_text 92 = .ok (.iload_n 3, 1) := by decide +kernel
theorem dX8_text_93 : decode cX8_text 93 = .ok (.aload_n 0, 1) := by decide +kernel
theorem dX8_text_94 : decode cX8_text 94 = .ok (.getfield 76, 3) := by decide +kernel
theorem dX8_text_97 : decode cX8_text 97 = .ok (.iastore, 1) := by decide +kernel
theorem dX8_text_98 : decode cX8_text 98 = .ok (.iconst 0, 1) := by decide +kernel
theorem dX8_text_99 : decode cX8_text 99 = .ok (.istore 4, 2) := by decide +kernel
theorem dX8_text_101 : decode cX8_text 101 = .ok (.iload 4, 2) := by decide +kernel
theorem dX8_text_103 : decode cX8_text 103 = .ok (.iconst 2, 1) := by decide +kernel
theorem dX8_text_104 : decode cX8_text 104 = .ok (.aload_n 0, 1) := by decide +kernel
theorem dX8_text_105 : decode cX8_text 105 = .ok (.getfield 76, 3) := by decide +kernel
theorem dX8_text_108 : decode cX8_text 108 = .ok (.imul, 1) := by decide +kernel
theorem dX8_text_109 : decode cX8_text 109 = .ok (.if_icmp .ge 27, 3) := by decide +kernel
theorem dX8_text_112 : decode cX8_text 112 = .ok (.aload_n 0, 1) := by decide +kernel
theorem dX8_text_113 : decode cX8_text 113 = .ok (.getfield 7, 3) := by decide +kernel
theorem dX8_text_116 : decode cX8_text 116 = .ok (.iload_n 3, 1) := by decide +kernel
theorem dX8_text_117 : decode cX8_text 117 = .ok (.iconst 1, 1) := by decide +kernel
theorem dX8_text_118 : decode cX8_text 118 = .ok (.iadd, 1) := by decide +kernel
theorem dX8_text_119 : decode cX8_text 119 = .ok (.iload 4, 2) := by decide +kernel
theorem dX8_text_121 : decode cX8_text 121 = .ok (.iadd, 1) := by decide +kernel
theorem dX8_text_122 : decode cX8_text 122 = .ok (.aload_n 0, 1) := by decide +kernel
theorem dX8_text_123 : decode cX8_text 123 = .ok (.getfield 22, 3) := by decide +kernel
theorem dX8_text_126 : decode cX8_text 126 = .ok (.iload 4, 2) := by decide +kernel
theorem dX8_text_128 : decode cX8_text 128 = .ok (.iaload, 1) := by decide +kernel
theorem dX8_text_129 : decode cX8_text 129 = .ok (.iastore, 1) := by decide +kernel
theorem dX8_text_130 : decode cX8_text 130 = .ok (.iinc 4 1, 3) := by decide +kernel
theorem dX8_text_133 : decode cX8_text 133 = .ok (.goto (-32), 3) := by decide +kernel
theorem dX8_text_136 : decode cX8_text 136 = .ok (.iconst 1, 1) := by decide +kernel
theorem dX8_text_137 : decode cX8_text 137 = .ok (.ireturn, 1) := by decide +kernel
theorem dX8_untell_0 : decode cX8_untell 0 = .ok (.iload_n 1, 1) := by decide +kernel
theorem dX8_untell_1 : decode cX8_untell 1 = .ok (.iconst 0, 1) := by decide +kernel
theorem dX8_untell_2 : decode cX8_untell 2 = .ok (.iconst 1, 1) := by decide +kernel
theorem dX8_untell_3 : decode cX8_untell 3 = .ok (.invokestatic 59, 3) := by decide +kernel
theorem dX8_untell_6 : decode cX8_untell 6 = .ok (.ifCond .ne 9, 3) := by decide +kernel
theorem dX8_untell_9 : decode cX8_untell 9 = .ok (.aload_n 0, 1) := by decide +kernel
theorem dX8_untell_10 : decode cX8_untell 10 = .ok (.iconst 1, 1) := by decide +kernel
theorem dX8_untell_11 : decode cX8_untell 11 = .ok (.invokevirtual 63, 3) := by decide +kernel
theorem dX8_untell_14 : decode cX8_untell 14 = .ok (.ireturn, 1) := by decide +kernel
theorem dX8_untell_15 : decode cX8_untell 15 = .ok (.aload_n 0, 1) := by decide +kernel
theorem dX8_untell_16 : decode cX8_untell 16 = .ok (.iload_n 1, 1) := by decide +kernel
theorem dX8_untell_17 : decode cX8_untell 17 = .ok (.invokevirtual 116, 3) := by decide +kernel
theorem dX8_untell_20 : decode cX8_untell 20 = .ok (.ifCond .eq 7, 3) := by decide +kernel
theorem dX8_untell_23 : decode cX8_untell 23 = .ok (.iconst 1, 1) := by decide +kernel
theorem dX8_untell_24 : decode cX8_untell 24 = .ok (.goto 4, 3) := by decide +kernel
theorem dX8_untell_27 : decode cX8_untell 27 = .ok (.iconst 0, 1) := by decide +kernel
theorem dX8_untell_28 : decode cX8_untell 28 = .ok (.istore_n 2, 1) := by decide +kernel
theorem dX8_untell_29 : decode cX8_untell 29 = .ok (.aload_n 0, 1) := by decide +kernel
theorem dX8_untell_30 : decode cX8_untell 30 = .ok (.getfield 7, 3) := by decide +kernel
theorem dX8_untell_33 : decode cX8_untell 33 = .ok (.bipush 60, 2) := by decide +kernel
theorem dX8_untell_35 : decode cX8_untell 35 = .ok (.bipush 125, 2) := by decide +kernel
theorem dX8_untell_37 : decode cX8_untell 37 = .ok (.iload_n 1, 1) := by decide +kernel
theorem dX8_untell_38 : decode cX8_untell 38 = .ok (.imul, 1) := by decide +kernel
theorem dX8_untell_39 : decode cX8_untell 39 = .ok (.iadd, 1) := by decide +kernel
theorem dX8_untell_40 : decode cX8_untell 40 = .ok (.iconst 0, 1) := by decide +kernel
theorem dX8_untell_41 : decode cX8_untell 41 = .ok (.iastore, 1) := by decide +kernel
theorem dX8_untell_42 : decode cX8_untell 42 = .ok (.iload_n 2, 1) := by decide +kernel
theorem dX8_untell_43 : decode cX8_untell 43 = .ok (.ireturn, 1) := by decide +kernel
theorem dX8_joined_0 : decode cX8_joined 0 = .ok (.iload_n 0, 1) := by decide +kernel
theorem dX8_joined_1 : decode cX8_joined 1 = .ok (.tableswitch 217 37 62 #[153, 203, 217, 217, 217, 127, 119, 217, 123, 217, 131, 217, 217, 217, 217, 217, 217, 217, 217, 217, 217, 217, 217, 170, 192, 181], 119) := by decide +kernel
theorem dX8_joined_120 : decode cX8_joined 120 = .ok (.iload_n 1, 1) := by decide +kernel
theorem dX8_joined_121 : decode cX8_joined 121 = .ok (.iload_n 2, 1) := by decide +kernel
theorem dX8_joined_122 : decode cX8_joined 122 = .ok (.iadd, 1) := by decide +kernel
theorem dX8_joined_123 : decode cX8_joined 123 = .ok (.ireturn, 1) := by decide +kernel
theorem dX8_joined_124 : decode cX8_joined 124 = .ok (.iload_n 1, 1) := by decide +kernel
theorem dX8_joined_125 : decode cX8_joined 125 = .ok (.iload_n 2, 1) := by decide +kernel
theorem dX8_joined_126 : decode cX8_joined 126 = .ok (.isub, 1) := by decide +kernel
theorem dX8_joined_127 : decode cX8_joined 127 = .ok (.ireturn, 1) := by decide +kernel
theorem dX8_joined_128 : decode cX8_joined 128 = .ok (.iload_n 1, 1) := by decide +kernel
theorem dX8_joined_129 : decode cX8_joined 129 = .ok (.iload_n 2, 1) := by decide +kernel
theorem dX8_joined_130 : decode cX8_joined 130 = .ok (.imul, 1) := by decide +kernel
theorem dX8_joined_131 : decode cX8_joined 131 = .ok (.ireturn, 1) := by decide +kernel
theorem dX8_joined_132 : decode cX8_joined 132 = .ok (.iload_n 2, 1) := by decide +kernel
theorem dX8_joined_133 : decode cX8_joined 133 = .ok (.ifCond .ne 7, 3) := by decide +kernel
theorem dX8_joined_136 : decode cX8_joined 136 = .ok (.iconst 0, 1) := by decide +kernel
theorem dX8_joined_137 : decode cX8_joined 137 = .ok (.goto 16, 3) := by decide +kernel
theorem dX8_joined_140 : decode cX8_joined 140 = .ok (.iload_n 2, 1) := by decide +kernel
theorem dX8_joined_141 : decode cX8_joined 141 = .ok (.iconst (-1), 1) := by decide +kernel
theorem dX8_joined_142 : decode cX8_joined 142 = .ok (.if_icmp .ne 8, 3) := by decide +kernel
theorem dX8_joined_145 : decode cX8_joined 145 = .ok (.iload_n 1, 1) := by decide +kernel
theorem dX8_joined_146 : decode cX8_joined 146 = .ok (.ineg, 1) := by decide +kernel
theorem dX8_joined_147 : decode cX8_joined 147 = .ok (.goto 6, 3) := by decide +kernel
theorem dX8_joined_150 : decode cX8_joined 150 = .ok (.iload_n 1, 1) := by decide +kernel
theorem dX8_joined_151 : decode cX8_joined 151 = .ok (.iload_n 2, 1) := by decide +kernel
theorem dX8_joined_152 : decode cX8_joined 152 = .ok (.idiv, 1) := by decide +kernel
theorem dX8_joined_153 : decode cX8_joined 153 = .ok (.ireturn, 1) := by decide +kernel
theorem dX8_joined_154 : decode cX8_joined 154 = .ok (.iload_n 2, 1) := by decide +kernel
theorem dX8_joined_155 : decode cX8_joined 155 = .ok (.ifCond .eq 8, 3) := by decide +kernel
theorem dX8_joined_158 : decode cX8_joined 158 = .ok (.iload_n 2, 1) := by decide +kernel
theorem dX8_joined_159 : decode cX8_joined 159 = .ok (.iconst (-1), 1) := by decide +kernel
theorem dX8_joined_160 : decode cX8_joined 160 = .ok (.if_icmp .ne 7, 3) := by decide +kernel
theorem dX8_joined_163 : decode cX8_joined 163 = .ok (.iconst 0, 1) := by decide +kernel
theorem dX8_joined_164 : decode cX8_joined 164 = .ok (.goto 6, 3) := by decide +kernel
theorem dX8_joined_167 : decode cX8_joined 167 = .ok (.iload_n 1, 1) := by decide +kernel
theorem dX8_joined_168 : decode cX8_joined 168 = .ok (.iload_n 2, 1) := by decide +kernel
theorem dX8_joined_169 : decode cX8_joined 169 = .ok (.irem, 1) := by decide +kernel
theorem dX8_joined_170 : decode cX8_joined 170 = .ok (.ireturn, 1) := by decide +kernel
theorem dX8_joined_171 : decode cX8_joined 171 = .ok (.iload_n 1, 1) := by decide +kernel
theorem dX8_joined_172 : decode cX8_joined 172 = .ok (.iload_n 2, 1) := by decide +kernel
theorem dX8_joined_173 : decode cX8_joined 173 = .ok (.if_icmp .ge 7, 3) := by decide +kernel
theorem dX8_joined_176 : decode cX8_joined 176 = .ok (.iconst 1, 1) := by decide +kernel
theorem dX8_joined_177 : decode cX8_joined 177 = .ok (.goto 4, 3) := by decide +kernel
theorem dX8_joined_180 : decode cX8_joined 180 = .ok (.iconst 0, 1) := by decide +kernel
theorem dX8_joined_181 : decode cX8_joined 181 = .ok (.ireturn, 1) := by decide +kernel
theorem dX8_joined_182 : decode cX8_joined 182 = .ok (.iload_n 1, 1) := by decide +kernel
theorem dX8_joined_183 : decode cX8_joined 183 = .ok (.iload_n 2, 1) := by decide +kernel
theorem dX8_joined_184 : decode cX8_joined 184 = .ok (.if_icmp .le 7, 3) := by decide +kernel
theorem dX8_joined_187 : decode cX8_joined 187 = .ok (.iconst 1, 1) := by decide +kernel
theorem dX8_joined_188 : decode cX8_joined 188 = .ok (.goto 4, 3) := by decide +kernel
theorem dX8_joined_191 : decode cX8_joined 191 = .ok (.iconst 0, 1) := by decide +kernel
theorem dX8_joined_192 : decode cX8_joined 192 = .ok (.ireturn, 1) := by decide +kernel
theorem dX8_joined_193 : decode cX8_joined 193 = .ok (.iload_n 1, 1) := by decide +kernel
theorem dX8_joined_194 : decode cX8_joined 194 = .ok (.iload_n 2, 1) := by decide +kernel
theorem dX8_joined_195 : decode cX8_joined 195 = .ok (.if_icmp .ne 7, 3) := by decide +kernel
theorem dX8_joined_198 : decode cX8_joined 198 = .ok (.iconst 1, 1) := by decide +kernel
theorem dX8_joined_199 : decode cX8_joined 199 = .ok (.goto 4, 3) := by decide +kernel
theorem dX8_joined_202 : decode cX8_joined 202 = .ok (.iconst 0, 1) := by decide +kernel
theorem dX8_joined_203 : decode cX8_joined 203 = .ok (.ireturn, 1) := by decide +kernel
theorem dX8_joined_204 : decode cX8_joined 204 = .ok (.iload_n 1, 1) := by decide +kernel
theorem dX8_joined_205 : decode cX8_joined 205 = .ok (.ifCond .eq 11, 3) := by decide +kernel
theorem dX8_joined_208 : decode cX8_joined 208 = .ok (.iload_n 2, 1) := by decide +kernel
theorem dX8_joined_209 : decode cX8_joined 209 = .ok (.ifCond .eq 7, 3) := by decide +kernel
theorem dX8_joined_212 : decode cX8_joined 212 = .ok (.iconst 1, 1) := by decide +kernel
theorem dX8_joined_213 : decode cX8_joined 213 = .ok (.goto 4, 3) := by decide +kernel
theorem dX8_joined_216 : decode cX8_joined 216 = .ok (.iconst 0, 1) := by decide +kernel
theorem dX8_joined_217 : decode cX8_joined 217 = .ok (.ireturn, 1) := by decide +kernel
theorem dX8_joined_218 : decode cX8_joined 218 = .ok (.iload_n 1, 1) := by decide +kernel
theorem dX8_joined_219 : decode cX8_joined 219 = .ok (.ifCond .ne 7, 3) := by decide +kernel
theorem dX8_joined_222 : decode cX8_joined 222 = .ok (.iload_n 2, 1) := by decide +kernel
theorem dX8_joined_223 : decode cX8_joined 223 = .ok (.ifCond .eq 7, 3) := by decide +kernel
theorem dX8_joined_226 : decode cX8_joined 226 = .ok (.iconst 1, 1) := by decide +kernel
theorem dX8_joined_227 : decode cX8_joined 227 = .ok (.goto 4, 3) := by decide +kernel
theorem dX8_joined_230 : decode cX8_joined 230 = .ok (.iconst 0, 1) := by decide +kernel
theorem dX8_joined_231 : decode cX8_joined 231 = .ok (.ireturn, 1) := by decide +kernel
theorem dX8_worked_0 : decode cX8_worked 0 = .ok (.bipush 60, 2) := by decide +kernel
theorem dX8_worked_2 : decode cX8_worked 2 = .ok (.bipush 125, 2) := by decide +kernel
theorem dX8_worked_4 : decode cX8_worked 4 = .ok (.iload_n 1, 1) := by decide +kernel
theorem dX8_worked_5 : decode cX8_worked 5 = .ok (.imul, 1) := by decide +kernel
theorem dX8_worked_6 : decode cX8_worked 6 = .ok (.iadd, 1) := by decide +kernel
theorem dX8_worked_7 : decode cX8_worked 7 = .ok (.istore_n 2, 1) := by decide +kernel
theorem dX8_worked_8 : decode cX8_worked 8 = .ok (.iconst 0, 1) := by decide +kernel
theorem dX8_worked_9 : decode cX8_worked 9 = .ok (.istore_n 3, 1) := by decide +kernel
theorem dX8_worked_10 : decode cX8_worked 10 = .ok (.iconst 0, 1) := by decide +kernel
theorem dX8_worked_11 : decode cX8_worked 11 = .ok (.istore 4, 2) := by decide +kernel
theorem dX8_worked_13 : decode cX8_worked 13 = .ok (.iload 4, 2) := by decide +kernel
theorem dX8_worked_15 : decode cX8_worked 15 = .ok (.aload_n 0, 1) := by decide +kernel
theorem dX8_worked_16 : decode cX8_worked 16 = .ok (.getfield 7, 3) := by decide +kernel
theorem dX8_worked_19 : decode cX8_worked 19 = .ok (.iload_n 2, 1) := by decide +kernel
theorem dX8_worked_20 : decode cX8_worked 20 = .ok (.iaload, 1) := by decide +kernel
theorem dX8_worked_21 : decode cX8_worked 21 = .ok (.if_icmp .ge 142, 3) := by decide +kernel
theorem dX8_worked_24 : decode cX8_worked 24 = .ok (.aload_n 0, 1) := by decide +kernel
theorem dX8_worked_25 : decode cX8_worked 25 = .ok (.getfield 7, 3) := by decide +kernel
theorem dX8_worked_28 : decode cX8_worked 28 = .ok (.iload_n 2, 1) := by decide +kernel
theorem dX8_worked_29 : decode cX8_worked 29 = .ok (.iconst 1, 1) := by decide +kernel
theorem dX8_worked_30 : decode cX8_worked 30 = .ok (.iadd, 1) := by decide +kernel
theorem dX8_worked_31 : decode cX8_worked 31 = .ok (.iconst 2, 1) := by decide +kernel
theorem dX8_worked_32 : decode cX8_worked 32 = .ok (.iload 4, 2) := by decide +kernel
theorem dX8_worked_34 : decode cX8_worked 34 = .ok (.imul, 1) := by decide +kernel
theorem dX8_worked_35 : decode cX8_worked 35 = .ok (.iadd, 1) := by decide +kernel
theorem dX8_worked_36 : decode cX8_worked 36 = .ok (.iaload, 1) := by decide +kernel
theorem dX8_worked_37 : decode cX8_worked 37 = .ok (.istore 5, 2) := by decide +kernel
theorem dX8_worked_39 : decode cX8_worked 39 = .ok (.aload_n 0, 1) := by decide +kernel
theorem dX8_worked_40 : decode cX8_worked 40 = .ok (.getfield 7, 3) := by decide +kernel
theorem dX8_worked_43 : decode cX8_worked 43 = .ok (.iload_n 2, 1) := by decide +kernel
theorem dX8_worked_44 : decode cX8_worked 44 = .ok (.iconst 2, 1) := by decide +kernel
theorem dX8_worked_45 : decode cX8_worked 45 = .ok (.iadd, 1) := by decide +kernel
theorem dX8_worked_46 : decode cX8_worked 46 = .ok (.iconst 2, 1) := by decide +kernel
theorem dX8_worked_47 : decode cX8_worked 47 = .ok (.iload 4, 2) := by decide +kernel
theorem dX8_worked_49 : decode cX8_worked 49 = .ok (.imul, 1) := by decide +kernel
theorem dX8_worked_50 : decode cX8_worked 50 = .ok (.iadd, 1) := by decide +kernel
theorem dX8_worked_51 : decode cX8_worked 51 = .ok (.iaload, 1) := by decide +kernel
theorem dX8_worked_52 : decode cX8_worked 52 = .ok (.istore 6, 2) := by decide +kernel
theorem dX8_worked_54 : decode cX8_worked 54 = .ok (.iload 5, 2) := by decide +kernel
theorem dX8_worked_56 : decode cX8_worked 56 = .ok (.ifCond .eq 9, 3) := by decide +kernel
theorem dX8_worked_59 : decode cX8_worked 59 = .ok (.iload 5, 2) := by decide +kernel
theorem dX8_worked_61 : decode cX8_worked 61 = .ok (.iconst 1, 1) := by decide +kernel
theorem dX8_worked_62 : decode cX8_worked 62 = .ok (.if_icmp .ne 32, 3) := by decide +kernel
theorem dX8_worked_65 : decode cX8_worked 65 = .ok (.aload_n 0, 1) := by decide +kernel
theorem dX8_worked_66 : decode cX8_worked 66 = .ok (.getfield 28, 3) := by decide +kernel
theorem dX8_worked_69 : decode cX8_worked 69 = .ok (.iload_n 3, 1) := by decide +kernel
theorem dX8_worked_70 : decode cX8_worked 70 = .ok (.iload 5, 2) := by decide +kernel
theorem dX8_worked_72 : decode cX8_worked 72 = .ok (.ifCond .ne 8, 3) := by decide +kernel
theorem dX8_worked_75 : decode cX8_worked 75 = .ok (.iload 6, 2) := by decide +kernel
theorem dX8_worked_77 : decode cX8_worked 77 = .ok (.goto 10, 3) := by decide +kernel
theorem dX8_worked_80 : decode cX8_worked 80 = .ok (.aload_n 0, 1) := by decide +kernel
theorem dX8_worked_81 : decode cX8_worked 81 = .ok (.getfield 25, 3) := by decide +kernel
theorem dX8_worked_84 : decode cX8_worked 84 = .ok (.iload 6, 2) := by decide +kernel
theorem dX8_worked_86 : decode cX8_worked 86 = .ok (.iaload, 1) := by decide +kernel
theorem dX8_worked_87 : decode cX8_worked 87 = .ok (.iastore, 1) := by decide +kernel
theorem dX8_worked_88 : decode cX8_worked 88 = .ok (.iinc 3 1, 3) := by decide +kernel
theorem dX8_worked_91 : decode cX8_worked 91 = .ok (.goto 66, 3) := by decide +kernel
theorem dX8_worked_94 : decode cX8_worked 94 = .ok (.iload 5, 2) := by decide +kernel
theorem dX8_worked_96 : decode cX8_worked 96 = .ok (.iconst 2, 1) := by decide +kernel
theorem dX8_worked_97 : decode cX8_worked 97 = .ok (.if_icmp .ne 30, 3) := by decide +kernel
theorem dX8_worked_100 : decode cX8_worked 100 = .ok (.aload_n 0, 1) := by decide +kernel
theorem dX8_worked_101 : decode cX8_worked 101 = .ok (.getfield 28, 3) := by decide +kernel
theorem dX8_worked_104 : decode cX8_worked 104 = .ok (.iload_n 3, 1) := by decide +kernel
theorem dX8_worked_105 : decode cX8_worked 105 = .ok (.iconst 1, 1) := by decide +kernel
theorem dX8_worked_106 : decode cX8_worked 106 = .ok (.isub, 1) := by decide +kernel
theorem dX8_worked_107 : decode cX8_worked 107 = .ok (.aload_n 0, 1) := by decide +kernel
theorem dX8_worked_108 : decode cX8_worked 108 = .ok (.getfield 28, 3) := by decide +kernel
theorem dX8_worked_111 : decode cX8_worked 111 = .ok (.iload_n 3, 1) := by decide +kernel
theorem dX8_worked_112 : decode cX8_worked 112 = .ok (.iconst 1, 1) := by decide +kernel
theorem dX8_worked_113 : decode cX8_worked 113 = .ok (.isub, 1) := by decide +kernel
theorem dX8_worked_114 : decode cX8_worked 114 = .ok (.iaload, 1) := by decide +kernel
theorem dX8_worked_115 : decode cX8_worked 115 = .ok (.ifCond .ne 7, 3) := by decide +kernel
theorem dX8_worked_118 : decode cX8_worked 118 = .ok (.iconst 1, 1) := by decide +kernel
theorem dX8_worked_119 : decode cX8_worked 119 = .ok (.goto 4, 3) := by decide +kernel
theorem dX8_worked_122 : decode cX8_worked 122 = .ok (.iconst 0, 1) := by decide +kernel
theorem dX8_worked_123 : decode cX8_worked 123 = .ok (.iastore, 1) := by decide +kernel
theorem dX8_worked_124 : decode cX8_worked 124 = .ok (.goto 33, 3) := by decide +kernel
theorem dX8_worked_127 : decode cX8_worked 127 = .ok (.iinc 3 (-1), 3) := by decide +kernel
theorem dX8_worked_130 : decode cX8_worked 130 = .ok (.aload_n 0, 1) := by decide +kernel
theorem dX8_worked_131 : decode cX8_worked 131 = .ok (.getfield 28, 3) := by decide +kernel
theorem dX8_worked_134 : decode cX8_worked 134 = .ok (.iload_n 3, 1) := by decide +kernel
theorem dX8_worked_135 : decode cX8_worked 135 = .ok (.iconst 1, 1) := by decide +kernel
theorem dX8_worked_136 : decode cX8_worked 136 = .ok (.isub, 1) := by decide +kernel
theorem dX8_worked_137 : decode cX8_worked 137 = .ok (.iload 6, 2) := by decide +kernel
theorem dX8_worked_139 : decode cX8_worked 139 = .ok (.aload_n 0, 1) := by decide +kernel
theorem dX8_worked_140 : decode cX8_worked 140 = .ok (.getfield 28, 3) := by decide +kernel
theorem dX8_worked_143 : decode cX8_worked 143 = .ok (.iload_n 3, 1) := by decide +kernel
theorem dX8_worked_144 : decode cX8_worked 144 = .ok (.iconst 1, 1) := by decide +kernel
theorem dX8_worked_145 : decode cX8_worked 145 = .ok (.isub, 1) := by decide +kernel
theorem dX8_worked_146 : decode cX8_worked 146 = .ok (.iaload, 1) := by decide +kernel
theorem dX8_worked_147 : decode cX8_worked 147 = .ok (.aload_n 0, 1) := by decide +kernel
theorem dX8_worked_148 : decode cX8_worked 148 = .ok (.getfield 28, 3) := by decide +kernel
theorem dX8_worked_151 : decode cX8_worked 151 = .ok (.iload_n 3, 1) := by decide +kernel
theorem dX8_worked_152 : decode cX8_worked 152 = .ok (.iaload, 1) := by decide +kernel
theorem dX8_worked_153 : decode cX8_worked 153 = .ok (.invokestatic 119, 3) := by decide +kernel
theorem dX8_worked_156 : decode cX8_worked 156 = .ok (.iastore, 1) := by decide +kernel
theorem dX8_worked_157 : decode cX8_worked 157 = .ok (.iinc 4 1, 3) := by decide +kernel
theorem dX8_worked_160 : decode cX8_worked 160 = .ok (.goto (-147), 3) := by decide +kernel
theorem dX8_worked_163 : decode cX8_worked 163 = .ok (.aload_n 0, 1) := by decide +kernel
theorem dX8_worked_164 : decode cX8_worked 164 = .ok (.getfield 28, 3) := by decide +kernel
theorem dX8_worked_167 : decode cX8_worked 167 = .ok (.iconst 0, 1) := by decide +kernel
theorem dX8_worked_168 : decode cX8_worked 168 = .ok (.iaload, 1) := by decide +kernel
theorem dX8_worked_169 : decode cX8_worked 169 = .ok (.ireturn, 1) := by decide +kernel
theorem dX8_growsOf_0 : decode cX8_growsOf 0 = .ok (.iconst 1, 1) := by decide +kernel
theorem dX8_growsOf_1 : decode cX8_growsOf 1 = .ok (.aload_n 0, 1) := by decide +kernel
theorem dX8_growsOf_2 : decode cX8_growsOf 2 = .ok (.iload_n 1, 1) := by decide +kernel
theorem dX8_growsOf_3 : decode cX8_growsOf 3 = .ok (.iconst 1, 1) := by decide +kernel
theorem dX8_growsOf_4 : decode cX8_growsOf 4 = .ok (.invokevirtual 123, 3) := by decide +kernel
theorem dX8_growsOf_7 : decode cX8_growsOf 7 = .ok (.iconst 3, 1) := by decide +kernel
theorem dX8_growsOf_8 : decode cX8_growsOf 8 = .ok (.idiv, 1) := by decide +kernel
theorem dX8_growsOf_9 : decode cX8_growsOf 9 = .ok (.iadd, 1) := by decide +kernel
theorem dX8_growsOf_10 : decode cX8_growsOf 10 = .ok (.istore_n 2, 1) := by decide +kernel
theorem dX8_growsOf_11 : decode cX8_growsOf 11 = .ok (.aload_n 0, 1) := by decide +kernel
theorem dX8_growsOf_12 : decode cX8_growsOf 12 = .ok (.getfield 7, 3) := by decide +kernel
theorem dX8_growsOf_15 : decode cX8_growsOf 15 = .ok (.iconst 0, 1) := by decide +kernel
theorem dX8_growsOf_16 : decode cX8_growsOf 16 = .ok (.iaload, 1) := by decide +kernel
theorem dX8_growsOf_17 : decode cX8_growsOf 17 = .ok (.bipush 24, 2) := by decide +kernel
theorem dX8_growsOf_19 : decode cX8_growsOf 19 = .ok (.irem, 1) := by decide +kernel
theorem dX8_growsOf_20 : decode cX8_growsOf 20 = .ok (.istore_n 3, 1) := by decide +kernel
theorem dX8_growsOf_21 : decode cX8_growsOf 21 = .ok (.iload_n 3, 1) := by decide +kernel
theorem dX8_growsOf_22 : decode cX8_growsOf 22 = .ok (.bipush 7, 2) := by decide +kernel
theorem dX8_growsOf_24 : decode cX8_growsOf 24 = .ok (.if_icmp .le 15, 3) := by decide +kernel
theorem dX8_growsOf_27 : decode cX8_growsOf 27 = .ok (.iload_n 3, 1) := by decide +kernel
theorem dX8_growsOf_28 : decode cX8_growsOf 28 = .ok (.bipush 15, 2) := by decide +kernel
theorem dX8_growsOf_30 : decode cX8_growsOf 30 = .ok (.if_icmp .ge 9, 3) := by decide +kernel
theorem dX8_growsOf_33 : decode cX8_growsOf 33 = .ok (.iconst 2, 1) := by decide +kernel
theorem dX8_growsOf_34 : decode cX8_growsOf 34 = .ok (.iload_n 2, 1) := by decide +kernel
theorem dX8_growsOf_35 : decode cX8_growsOf 35 = .ok (.imul, 1) := by decide +kernel
theorem dX8_growsOf_36 : decode cX8_growsOf 36 = .ok (.goto 4, 3) := by decide +kernel
theorem dX8_growsOf_39 : decode cX8_growsOf 39 = .ok (.iload_n 2, 1) := by decide +kernel
theorem dX8_growsOf_40 : decode cX8_growsOf 40 = .ok (.istore 4, 2) := by decide +kernel
theorem dX8_growsOf_42 : decode cX8_growsOf 42 = .ok (.aload_n 0, 1) := by decide +kernel
theorem dX8_growsOf_43 : decode cX8_growsOf 43 = .ok (.iload_n 1, 1) := by decide +kernel
theorem dX8_growsOf_44 : decode cX8_growsOf 44 = .ok (.iconst 0, 1) := by decide +kernel
theorem dX8_growsOf_45 : decode cX8_growsOf 45 = .ok (.invokevirtual 123, 3) := by decide +kernel
theorem dX8_growsOf_48 : decode cX8_growsOf 48 = .ok (.tableswitch 98 1 6 #[40, 51, 98, 54, 72, 94], 40) := by decide +kernel
theorem dX8_growsOf_88 : decode cX8_growsOf 88 = .ok (.iload_n 2, 1) := by decide +kernel
theorem dX8_growsOf_89 : decode cX8_growsOf 89 = .ok (.aload_n 0, 1) := by decide +kernel
theorem dX8_growsOf_90 : decode cX8_growsOf 90 = .ok (.iload_n 1, 1) := by decide +kernel
theorem dX8_growsOf_91 : decode cX8_growsOf 91 = .ok (.iconst 3, 1) := by decide +kernel
theorem dX8_growsOf_92 : decode cX8_growsOf 92 = .ok (.invokevirtual 123, 3) := by decide +kernel
theorem dX8_growsOf_95 : decode cX8_growsOf 95 = .ok (.iconst 4, 1) := by decide +kernel
theorem dX8_growsOf_96 : decode cX8_growsOf 96 = .ok (.idiv, 1) := by decide +kernel
theorem dX8_growsOf_97 : decode cX8_growsOf 97 = .ok (.iadd, 1) := by decide +kernel
theorem dX8_growsOf_98 : decode cX8_growsOf 98 = .ok (.ireturn, 1) := by decide +kernel
theorem dX8_growsOf_99 : decode cX8_growsOf 99 = .ok (.iload 4, 2) := by decide +kernel
theorem dX8_growsOf_101 : decode cX8_growsOf 101 = .ok (.ireturn, 1) := by decide +kernel
theorem dX8_growsOf_102 : decode cX8_growsOf 102 = .ok (.iload_n 2, 1) := by decide +kernel
theorem dX8_growsOf_103 : decode cX8_growsOf 103 = .ok (.aload_n 0, 1) := by decide +kernel
theorem dX8_growsOf_104 : decode cX8_growsOf 104 = .ok (.iload_n 1, 1) := by decide +kernel
theorem dX8_growsOf_105 : decode cX8_growsOf 105 = .ok (.iconst 3, 1) := by decide +kernel
theorem dX8_growsOf_106 : decode cX8_growsOf 106 = .ok (.invokevirtual 123, 3) := by decide +kernel
theorem dX8_growsOf_109 : decode cX8_growsOf 109 = .ok (.iconst 4, 1) := by decide +kernel
theorem dX8_growsOf_110 : decode cX8_growsOf 110 = .ok (.idiv, 1) := by decide +kernel
theorem dX8_growsOf_111 : decode cX8_growsOf 111 = .ok (.iadd, 1) := by decide +kernel
theorem dX8_growsOf_112 : decode cX8_growsOf 112 = .ok (.aload_n 0, 1) := by decide +kernel
theorem dX8_growsOf_113 : decode cX8_growsOf 113 = .ok (.iload_n 1, 1) := by decide +kernel
theorem dX8_growsOf_114 : decode cX8_growsOf 114 = .ok (.iconst 1, 1) := by decide +kernel
theorem dX8_growsOf_115 : decode cX8_growsOf 115 = .ok (.invokevirtual 123, 3) := by decide +kernel
theorem dX8_growsOf_118 : decode cX8_growsOf 118 = .ok (.iadd, 1) := by decide +kernel
theorem dX8_growsOf_119 : decode cX8_growsOf 119 = .ok (.ireturn, 1) := by decide +kernel
theorem dX8_growsOf_120 : decode cX8_growsOf 120 = .ok (.aload_n 0, 1) := by decide +kernel
theorem dX8_growsOf_121 : decode cX8_growsOf 121 = .ok (.getfield 7, 3) := by decide +kernel
theorem dX8_growsOf_124 : decode cX8_growsOf 124 = .ok (.iconst 0, 1) := by decide +kernel
theorem dX8_growsOf_125 : decode cX8_growsOf 125 = .ok (.iaload, 1) := by decide +kernel
theorem dX8_growsOf_126 : decode cX8_growsOf 126 = .ok (.bipush 7, 2) := by decide +kernel
theorem dX8_growsOf_128 : decode cX8_growsOf 128 = .ok (.irem, 1) := by decide +kernel
theorem dX8_growsOf_129 : decode cX8_growsOf 129 = .ok (.ifCond .ne 10, 3) := by decide +kernel
theorem dX8_growsOf_132 : decode cX8_growsOf 132 = .ok (.iload 4, 2) := by decide +kernel
theorem dX8_growsOf_134 : decode cX8_growsOf 134 = .ok (.iconst 3, 1) := by decide +kernel
theorem dX8_growsOf_135 : decode cX8_growsOf 135 = .ok (.iadd, 1) := by decide +kernel
theorem dX8_growsOf_136 : decode cX8_growsOf 136 = .ok (.goto 5, 3) := by decide +kernel
theorem dX8_growsOf_139 : decode cX8_growsOf 139 = .ok (.iload 4, 2) := by decide +kernel
theorem dX8_growsOf_141 : decode cX8_growsOf 141 = .ok (.ireturn, 1) := by decide +kernel
theorem dX8_growsOf_142 : decode cX8_growsOf 142 = .ok (.iload_n 2, 1) := by decide +kernel
theorem dX8_growsOf_143 : decode cX8_growsOf 143 = .ok (.iconst 1, 1) := by decide +kernel
theorem dX8_growsOf_144 : decode cX8_growsOf 144 = .ok (.isub, 1) := by decide +kernel
theorem dX8_growsOf_145 : decode cX8_growsOf 145 = .ok (.ireturn, 1) := by decide +kernel
theorem dX8_growsOf_146 : decode cX8_growsOf 146 = .ok (.iload_n 2, 1) := by decide +kernel
theorem dX8_growsOf_147 : decode cX8_growsOf 147 = .ok (.ireturn, 1) := by decide +kernel
theorem dX8_paysOf_0 : decode cX8_paysOf 0 = .ok (.aload_n 0, 1) := by decide +kernel
theorem dX8_paysOf_1 : decode cX8_paysOf 1 = .ok (.iload_n 1, 1) := by decide +kernel
theorem dX8_paysOf_2 : decode cX8_paysOf 2 = .ok (.iconst 4, 1) := by decide +kernel
theorem dX8_paysOf_3 : decode cX8_paysOf 3 = .ok (.invokevirtual 123, 3) := by decide +kernel
theorem dX8_paysOf_6 : decode cX8_paysOf 6 = .ok (.aload_n 0, 1) := by decide +kernel
theorem dX8_paysOf_7 : decode cX8_paysOf 7 = .ok (.iload_n 1, 1) := by decide +kernel
theorem dX8_paysOf_8 : decode cX8_paysOf 8 = .ok (.iconst 2, 1) := by decide +kernel
theorem dX8_paysOf_9 : decode cX8_paysOf 9 = .ok (.invokevirtual 123, 3) := by decide +kernel
theorem dX8_paysOf_12 : decode cX8_paysOf 12 = .ok (.iadd, 1) := by decide +kernel
theorem dX8_paysOf_13 : decode cX8_paysOf 13 = .ok (.istore_n 2, 1) := by decide +kernel
theorem dX8_paysOf_14 : decode cX8_paysOf 14 = .ok (.aload_n 0, 1) := by decide +kernel
theorem dX8_paysOf_15 : decode cX8_paysOf 15 = .ok (.iload_n 1, 1) := by decide +kernel
theorem dX8_paysOf_16 : decode cX8_paysOf 16 = .ok (.iconst 0, 1) := by decide +kernel
theorem dX8_paysOf_17 : decode cX8_paysOf 17 = .ok (.invokevirtual 123, 3) := by decide +kernel
theorem dX8_paysOf_20 : decode cX8_paysOf 20 = .ok (.tableswitch 61 2 6 #[36, 40, 44, 48, 59], 36) := by decide +kernel
theorem dX8_paysOf_56 : decode cX8_paysOf 56 = .ok (.iload_n 2, 1) := by decide +kernel
theorem dX8_paysOf_57 : decode cX8_paysOf 57 = .ok (.iconst 2, 1) := by decide +kernel
theorem dX8_paysOf_58 : decode cX8_paysOf 58 = .ok (.idiv, 1) := by decide +kernel
theorem dX8_paysOf_59 : decode cX8_paysOf 59 = .ok (.ireturn, 1) := by decide +kernel
theorem dX8_paysOf_60 : decode cX8_paysOf 60 = .ok (.iconst 2, 1) := by decide +kernel
theorem dX8_paysOf_61 : decode cX8_paysOf 61 = .ok (.iload_n 2, 1) := by decide +kernel
theorem dX8_paysOf_62 : decode cX8_paysOf 62 = .ok (.imul, 1) := by decide +kernel
theorem dX8_paysOf_63 : decode cX8_paysOf 63 = .ok (.ireturn, 1) := by decide +kernel
theorem dX8_paysOf_64 : decode cX8_paysOf 64 = .ok (.iload_n 2, 1) := by decide +kernel
theorem dX8_paysOf_65 : decode cX8_paysOf 65 = .ok (.iconst 5, 1) := by decide +kernel
theorem dX8_paysOf_66 : decode cX8_paysOf 66 = .ok (.iadd, 1) := by decide +kernel
theorem dX8_paysOf_67 : decode cX8_paysOf 67 = .ok (.ireturn, 1) := by decide +kernel
theorem dX8_paysOf_68 : decode cX8_paysOf 68 = .ok (.iload_n 2, 1) := by decide +kernel
theorem dX8_paysOf_69 : decode cX8_paysOf 69 = .ok (.iconst 2, 1) := by decide +kernel
theorem dX8_paysOf_70 : decode cX8_paysOf 70 = .ok (.idiv, 1) := by decide +kernel
theorem dX8_paysOf_71 : decode cX8_paysOf 71 = .ok (.aload_n 0, 1) := by decide +kernel
theorem dX8_paysOf_72 : decode cX8_paysOf 72 = .ok (.iload_n 1, 1) := by decide +kernel
theorem dX8_paysOf_73 : decode cX8_paysOf 73 = .ok (.iconst 3, 1) := by decide +kernel
theorem dX8_paysOf_74 : decode cX8_paysOf 74 = .ok (.invokevirtual 123, 3) := by decide +kernel
theorem dX8_paysOf_77 : decode cX8_paysOf 77 = .ok (.iadd, 1) := by decide +kernel
theorem dX8_paysOf_78 : decode cX8_paysOf 78 = .ok (.ireturn, 1) := by decide +kernel
theorem dX8_paysOf_79 : decode cX8_paysOf 79 = .ok (.iconst 0, 1) := by decide +kernel
theorem dX8_paysOf_80 : decode cX8_paysOf 80 = .ok (.ireturn, 1) := by decide +kernel
theorem dX8_paysOf_81 : decode cX8_paysOf 81 = .ok (.iload_n 2, 1) := by decide +kernel
theorem dX8_paysOf_82 : decode cX8_paysOf 82 = .ok (.ireturn, 1) := by decide +kernel
theorem dX8_growthTold_0 : decode cX8_growthTold 0 = .ok (.aload_n 0, 1) := by decide +kernel
theorem dX8_growthTold_1 : decode cX8_growthTold 1 = .ok (.getfield 25, 3) := by decide +kernel
theorem dX8_growthTold_4 : decode cX8_growthTold 4 = .ok (.bipush 103, 2) := by decide +kernel
theorem dX8_growthTold_6 : decode cX8_growthTold 6 = .ok (.iload_n 1, 1) := by decide +kernel
theorem dX8_growthTold_7 : decode cX8_growthTold 7 = .ok (.iastore, 1) := by decide +kernel
theorem dX8_growthTold_8 : decode cX8_growthTold 8 = .ok (.aload_n 0, 1) := by decide +kernel
theorem dX8_growthTold_9 : decode cX8_growthTold 9 = .ok (.getfield 25, 3) := by decide +kernel
theorem dX8_growthTold_12 : decode cX8_growthTold 12 = .ok (.bipush 100, 2) := by decide +kernel
theorem dX8_growthTold_14 : decode cX8_growthTold 14 = .ok (.iload_n 2, 1) := by decide +kernel
theorem dX8_growthTold_15 : decode cX8_growthTold 15 = .ok (.iastore, 1) := by decide +kernel
theorem dX8_growthTold_16 : decode cX8_growthTold 16 = .ok (.aload_n 0, 1) := by decide +kernel
theorem dX8_growthTold_17 : decode cX8_growthTold 17 = .ok (.getfield 25, 3) := by decide +kernel
theorem dX8_growthTold_20 : decode cX8_growthTold 20 = .ok (.bipush 104, 2) := by decide +kernel
theorem dX8_growthTold_22 : decode cX8_growthTold 22 = .ok (.iload_n 3, 1) := by decide +kernel
theorem dX8_growthTold_23 : decode cX8_growthTold 23 = .ok (.iastore, 1) := by decide +kernel
theorem dX8_growthTold_24 : decode cX8_growthTold 24 = .ok (.aload_n 0, 1) := by decide +kernel
theorem dX8_growthTold_25 : decode cX8_growthTold 25 = .ok (.iconst 0, 1) := by decide +kernel
theorem dX8_growthTold_26 : decode cX8_growthTold 26 = .ok (.invokevirtual 116, 3) := by decide +kernel
theorem dX8_growthTold_29 : decode cX8_growthTold 29 = .ok (.ifCond .eq 11, 3) := by decide +kernel
theorem dX8_growthTold_32 : decode cX8_growthTold 32 = .ok (.aload_n 0, 1) := by decide +kernel
theorem dX8_growthTold_33 : decode cX8_growthTold 33 = .ok (.iconst 0, 1) := by decide +kernel
theorem dX8_growthTold_34 : decode cX8_growthTold 34 = .ok (.invokevirtual 127, 3) := by decide +kernel
theorem dX8_growthTold_37 : decode cX8_growthTold 37 = .ok (.goto 4, 3) := by decide +kernel
theorem dX8_growthTold_40 : decode cX8_growthTold 40 = .ok (.iload_n 1, 1) := by decide +kernel
theorem dX8_growthTold_41 : decode cX8_growthTold 41 = .ok (.iconst 0, 1) := by decide +kernel
theorem dX8_growthTold_42 : decode cX8_growthTold 42 = .ok (.bipush 9, 2) := by decide +kernel
theorem dX8_growthTold_44 : decode cX8_growthTold 44 = .ok (.invokestatic 130, 3) := by decide +kernel
theorem dX8_growthTold_47 : decode cX8_growthTold 47 = .ok (.ireturn, 1) := by decide +kernel
theorem dX8_payTold_0 : decode cX8_payTold 0 = .ok (.aload_n 0, 1) := by decide +kernel
theorem dX8_payTold_1 : decode cX8_payTold 1 = .ok (.getfield 25, 3) := by decide +kernel
theorem dX8_payTold_4 : decode cX8_payTold 4 = .ok (.bipush 112, 2) := by decide +kernel
theorem dX8_payTold_6 : decode cX8_payTold 6 = .ok (.iload_n 1, 1) := by decide +kernel
theorem dX8_payTold_7 : decode cX8_payTold 7 = .ok (.iastore, 1) := by decide +kernel
theorem dX8_payTold_8 : decode cX8_payTold 8 = .ok (.aload_n 0, 1) := by decide +kernel
theorem dX8_payTold_9 : decode cX8_payTold 9 = .ok (.getfield 25, 3) := by decide +kernel
theorem dX8_payTold_12 : decode cX8_payTold 12 = .ok (.bipush 100, 2) := by decide +kernel
theorem dX8_payTold_14 : decode cX8_payTold 14 = .ok (.iload_n 2, 1) := by decide +kernel
theorem dX8_payTold_15 : decode cX8_payTold 15 = .ok (.iastore, 1) := by decide +kernel
theorem dX8_payTold_16 : decode cX8_payTold 16 = .ok (.aload_n 0, 1) := by decide +kernel
theorem dX8_payTold_17 : decode cX8_payTold 17 = .ok (.getfield 25, 3) := by decide +kernel
theorem dX8_payTold_20 : decode cX8_payTold 20 = .ok (.bipush 115, 2) := by decide +kernel
theorem dX8_payTold_22 : decode cX8_payTold 22 = .ok (.iload_n 3, 1) := by decide +kernel
theorem dX8_payTold_23 : decode cX8_payTold 23 = .ok (.iastore, 1) := by decide +kernel
theorem dX8_payTold_24 : decode cX8_payTold 24 = .ok (.aload_n 0, 1) := by decide +kernel
theorem dX8_payTold_25 : decode cX8_payTold 25 = .ok (.iconst 1, 1) := by decide +kernel
theorem dX8_payTold_26 : decode cX8_payTold 26 = .ok (.invokevirtual 116, 3) := by decide +kernel
theorem dX8_payTold_29 : decode cX8_payTold 29 = .ok (.ifCond .eq 11, 3) := by decide +kernel
theorem dX8_payTold_32 : decode cX8_payTold 32 = .ok (.aload_n 0, 1) := by decide +kernel
theorem dX8_payTold_33 : decode cX8_payTold 33 = .ok (.iconst 1, 1) := by decide +kernel
theorem dX8_payTold_34 : decode cX8_payTold 34 = .ok (.invokevirtual 127, 3) := by decide +kernel
theorem dX8_payTold_37 : decode cX8_payTold 37 = .ok (.goto 4, 3) := by decide +kernel
theorem dX8_payTold_40 : decode cX8_payTold 40 = .ok (.iload_n 1, 1) := by decide +kernel
theorem dX8_payTold_41 : decode cX8_payTold 41 = .ok (.iconst 0, 1) := by decide +kernel
theorem dX8_payTold_42 : decode cX8_payTold 42 = .ok (.sipush 999, 3) := by decide +kernel
theorem dX8_payTold_45 : decode cX8_payTold 45 = .ok (.invokestatic 130, 3) := by decide +kernel
theorem dX8_payTold_48 : decode cX8_payTold 48 = .ok (.ireturn, 1) := by decide +kernel
theorem dX8_growthOf_0 : decode cX8_growthOf 0 = .ok (.aload_n 0, 1) := by decide +kernel
theorem dX8_growthOf_1 : decode cX8_growthOf 1 = .ok (.aload_n 0, 1) := by decide +kernel
theorem dX8_growthOf_2 : decode cX8_growthOf 2 = .ok (.iload_n 1, 1) := by decide +kernel
theorem dX8_growthOf_3 : decode cX8_growthOf 3 = .ok (.invokevirtual 133, 3) := by decide +kernel
theorem dX8_growthOf_6 : decode cX8_growthOf 6 = .ok (.aload_n 0, 1) := by decide +kernel
theorem dX8_growthOf_7 : decode cX8_growthOf 7 = .ok (.iload_n 1, 1) := by decide +kernel
theorem dX8_growthOf_8 : decode cX8_growthOf 8 = .ok (.iconst 4, 1) := by decide +kernel
theorem dX8_growthOf_9 : decode cX8_growthOf 9 = .ok (.invokevirtual 123, 3) := by decide +kernel
theorem dX8_growthOf_12 : decode cX8_growthOf 12 = .ok (.aload_n 0, 1) := by decide +kernel
theorem dX8_growthOf_13 : decode cX8_growthOf 13 = .ok (.getfield 7, 3) := by decide +kernel
theorem dX8_growthOf_16 : decode cX8_growthOf 16 = .ok (.iconst 0, 1) := by decide +kernel
theorem dX8_growthOf_17 : decode cX8_growthOf 17 = .ok (.iaload, 1) := by decide +kernel
theorem dX8_growthOf_18 : decode cX8_growthOf 18 = .ok (.bipush 24, 2) := by decide +kernel
theorem dX8_growthOf_20 : decode cX8_growthOf 20 = .ok (.irem, 1) := by decide +kernel
theorem dX8_growthOf_21 : decode cX8_growthOf 21 = .ok (.invokevirtual 136, 3) := by decide +kernel
theorem dX8_growthOf_24 : decode cX8_growthOf 24 = .ok (.ireturn, 1) := by decide +kernel
theorem dX8_payOf_0 : decode cX8_payOf 0 = .ok (.aload_n 0, 1) := by decide +kernel
theorem dX8_payOf_1 : decode cX8_payOf 1 = .ok (.aload_n 0, 1) := by decide +kernel
theorem dX8_payOf_2 : decode cX8_payOf 2 = .ok (.iload_n 1, 1) := by decide +kernel
theorem dX8_payOf_3 : decode cX8_payOf 3 = .ok (.invokevirtual 139, 3) := by decide +kernel
theorem dX8_payOf_6 : decode cX8_payOf 6 = .ok (.aload_n 0, 1) := by decide +kernel
theorem dX8_payOf_7 : decode cX8_payOf 7 = .ok (.iload_n 1, 1) := by decide +kernel
theorem dX8_payOf_8 : decode cX8_payOf 8 = .ok (.iconst 4, 1) := by decide +kernel
theorem dX8_payOf_9 : decode cX8_payOf 9 = .ok (.invokevirtual 123, 3) := by decide +kernel
theorem dX8_payOf_12 : decode cX8_payOf 12 = .ok (.aload_n 0, 1) := by decide +kernel
theorem dX8_payOf_13 : decode cX8_payOf 13 = .ok (.iload_n 1, 1) := by decide +kernel
theorem dX8_payOf_14 : decode cX8_payOf 14 = .ok (.iconst 2, 1) := by decide +kernel
theorem dX8_payOf_15 : decode cX8_payOf 15 = .ok (.invokevirtual 123, 3) := by decide +kernel
theorem dX8_payOf_18 : decode cX8_payOf 18 = .ok (.invokevirtual 142, 3) := by decide +kernel
theorem dX8_payOf_21 : decode cX8_payOf 21 = .ok (.ireturn, 1) := by decide +kernel
theorem dX8_anHour_0 : decode cX8_anHour 0 = .ok (.iconst 0, 1) := by decide +kernel
theorem dX8_anHour_1 : decode cX8_anHour 1 = .ok (.istore_n 1, 1) := by decide +kernel
theorem dX8_anHour_2 : decode cX8_anHour 2 = .ok (.iload_n 1, 1) := by decide +kernel
theorem dX8_anHour_3 : decode cX8_anHour 3 = .ok (.aload_n 0, 1) := by decide +kernel
theorem dX8_anHour_4 : decode cX8_anHour 4 = .ok (.getfield 7, 3) := by decide +kernel
theorem dX8_anHour_7 : decode cX8_anHour 7 = .ok (.iconst 5, 1) := by decide +kernel
theorem dX8_anHour_8 : decode cX8_anHour 8 = .ok (.iaload, 1) := by decide +kernel
theorem dX8_anHour_9 : decode cX8_anHour 9 = .ok (.if_icmp .ge 58, 3) := by decide +kernel
theorem dX8_anHour_12 : decode cX8_anHour 12 = .ok (.aload_n 0, 1) := by decide +kernel
theorem dX8_anHour_13 : decode cX8_anHour 13 = .ok (.iload_n 1, 1) := by decide +kernel
theorem dX8_anHour_14 : decode cX8_anHour 14 = .ok (.iconst 4, 1) := by decide +kernel
theorem dX8_anHour_15 : decode cX8_anHour 15 = .ok (.invokevirtual 123, 3) := by decide +kernel
theorem dX8_anHour_18 : decode cX8_anHour 18 = .ok (.aload_n 0, 1) := by decide +kernel
theorem dX8_anHour_19 : decode cX8_anHour 19 = .ok (.iload_n 1, 1) := by decide +kernel
theorem dX8_anHour_20 : decode cX8_anHour 20 = .ok (.invokevirtual 145, 3) := by decide +kernel
theorem dX8_anHour_23 : decode cX8_anHour 23 = .ok (.iadd, 1) := by decide +kernel
theorem dX8_anHour_24 : decode cX8_anHour 24 = .ok (.istore_n 2, 1) := by decide +kernel
theorem dX8_anHour_25 : decode cX8_anHour 25 = .ok (.iload_n 2, 1) := by decide +kernel
theorem dX8_anHour_26 : decode cX8_anHour 26 = .ok (.bipush 99, 2) := by decide +kernel
theorem dX8_anHour_28 : decode cX8_anHour 28 = .ok (.if_icmp .le 26, 3) := by decide +kernel
theorem dX8_anHour_31 : decode cX8_anHour 31 = .ok (.bipush 99, 2) := by decide +kernel
theorem dX8_anHour_33 : decode cX8_anHour 33 = .ok (.istore_n 2, 1) := by decide +kernel
theorem dX8_anHour_34 : decode cX8_anHour 34 = .ok (.aload_n 0, 1) := by decide +kernel
theorem dX8_anHour_35 : decode cX8_anHour 35 = .ok (.getfield 7, 3) := by decide +kernel
theorem dX8_anHour_38 : decode cX8_anHour 38 = .ok (.iconst 1, 1) := by decide +kernel
theorem dX8_anHour_39 : decode cX8_anHour 39 = .ok (.aload_n 0, 1) := by decide +kernel
theorem dX8_anHour_40 : decode cX8_anHour 40 = .ok (.getfield 7, 3) := by decide +kernel
theorem dX8_anHour_43 : decode cX8_anHour 43 = .ok (.iconst 1, 1) := by decide +kernel
theorem dX8_anHour_44 : decode cX8_anHour 44 = .ok (.iaload, 1) := by decide +kernel
theorem dX8_anHour_45 : decode cX8_anHour 45 = .ok (.iconst 1, 1) := by decide +kernel
theorem dX8_anHour_46 : decode cX8_anHour 46 = .ok (.iadd, 1) := by decide +kernel
theorem dX8_anHour_47 : decode cX8_anHour 47 = .ok (.iconst 0, 1) := by decide +kernel
theorem dX8_anHour_48 : decode cX8_anHour 48 = .ok (.ldc 148, 2) := by decide +kernel
theorem dX8_anHour_50 : decode cX8_anHour 50 = .ok (.invokestatic 130, 3) := by decide +kernel
theorem dX8_anHour_53 : decode cX8_anHour 53 = .ok (.iastore, 1) := by decide +kernel
theorem dX8_anHour_54 : decode cX8_anHour 54 = .ok (.aload_n 0, 1) := by decide +kernel
theorem dX8_anHour_55 : decode cX8_anHour 55 = .ok (.iload_n 1, 1) := by decide +kernel
theorem dX8_anHour_56 : decode cX8_anHour 56 = .ok (.iconst 4, 1) := by decide +kernel
theorem dX8_anHour_57 : decode cX8_anHour 57 = .ok (.iload_n 2, 1) := by decide +kernel
theorem dX8_anHour_58 : decode cX8_anHour 58 = .ok (.invokevirtual 149, 3) := by decide +kernel
theorem dX8_anHour_61 : decode cX8_anHour 61 = .ok (.iinc 1 1, 3) := by decide +kernel
theorem dX8_anHour_64 : decode cX8_anHour 64 = .ok (.goto (-62), 3) := by decide +kernel
theorem dX8_anHour_67 : decode cX8_anHour 67 = .ok (.iconst 0, 1) := by decide +kernel
theorem dX8_anHour_68 : decode cX8_anHour 68 = .ok (.istore_n 1, 1) := by decide +kernel
theorem dX8_anHour_69 : decode cX8_anHour 69 = .ok (.iload_n 1, 1) := by decide +kernel
theorem dX8_anHour_70 : decode cX8_anHour 70 = .ok (.iconst 3, 1) := by decide +kernel
theorem dX8_anHour_71 : decode cX8_anHour 71 = .ok (.if_icmp .ge 38, 3) := by decide +kernel
theorem dX8_anHour_74 : decode cX8_anHour 74 = .ok (.aload_n 0, 1) := by decide +kernel
theorem dX8_anHour_75 : decode cX8_anHour 75 = .ok (.getfield 7, 3) := by decide +kernel
theorem dX8_anHour_78 : decode cX8_anHour 78 = .ok (.bipush 7, 2) := by decide +kernel
theorem dX8_anHour_80 : decode cX8_anHour 80 = .ok (.iload_n 1, 1) := by decide +kernel
theorem dX8_anHour_81 : decode cX8_anHour 81 = .ok (.iadd, 1) := by decide +kernel
theorem dX8_anHour_82 : decode cX8_anHour 82 = .ok (.aload_n 0, 1) := by decide +kernel
theorem dX8_anHour_83 : decode cX8_anHour 83 = .ok (.getfield 7, 3) := by decide +kernel
theorem dX8_anHour_86 : decode cX8_anHour 86 = .ok (.bipush 7, 2) := by decide +kernel
theorem dX8_anHour_88 : decode cX8_anHour 88 = .ok (.iload_n 1, 1) := by decide +kernel
theorem dX8_anHour_89 : decode cX8_anHour 89 = .ok (.iadd, 1) := by decide +kernel
theorem dX8_anHour_90 : decode cX8_anHour 90 = .ok (.iaload, 1) := by decide +kernel
theorem dX8_anHour_91 : decode cX8_anHour 91 = .ok (.iload_n 1, 1) := by decide +kernel
theorem dX8_anHour_92 : decode cX8_anHour 92 = .ok (.iadd, 1) := by decide +kernel
theorem dX8_anHour_93 : decode cX8_anHour 93 = .ok (.iconst 1, 1) := by decide +kernel
theorem dX8_anHour_94 : decode cX8_anHour 94 = .ok (.iadd, 1) := by decide +kernel
theorem dX8_anHour_95 : decode cX8_anHour 95 = .ok (.iconst 0, 1) := by decide +kernel
theorem dX8_anHour_96 : decode cX8_anHour 96 = .ok (.sipush 999, 3) := by decide +kernel
theorem dX8_anHour_99 : decode cX8_anHour 99 = .ok (.invokestatic 130, 3) := by decide +kernel
theorem dX8_anHour_102 : decode cX8_anHour 102 = .ok (.iastore, 1) := by decide +kernel
theorem dX8_anHour_103 : decode cX8_anHour 103 = .ok (.iinc 1 1, 3) := by decide +kernel
theorem dX8_anHour_106 : decode cX8_anHour 106 = .ok (.goto (-37), 3) := by decide +kernel
theorem dX8_anHour_109 : decode cX8_anHour 109 = .ok (.aload_n 0, 1) := by decide +kernel
theorem dX8_anHour_110 : decode cX8_anHour 110 = .ok (.getfield 7, 3) := by decide +kernel
theorem dX8_anHour_113 : decode cX8_anHour 113 = .ok (.iconst 0, 1) := by decide +kernel
theorem dX8_anHour_114 : decode cX8_anHour 114 = .ok (.dup2, 1) := by decide +kernel
theorem dX8_anHour_115 : decode cX8_anHour 115 = .ok (.iaload, 1) := by decide +kernel
theorem dX8_anHour_116 : decode cX8_anHour 116 = .ok (.iconst 1, 1) := by decide +kernel
theorem dX8_anHour_117 : decode cX8_anHour 117 = .ok (.iadd, 1) := by decide +kernel
theorem dX8_anHour_118 : decode cX8_anHour 118 = .ok (.iastore, 1) := by decide +kernel
theorem dX8_anHour_119 : decode cX8_anHour 119 = .ok (.return_, 1) := by decide +kernel
theorem dX8_draw_0 : decode cX8_draw 0 = .ok (.aload_n 0, 1) := by decide +kernel
theorem dX8_draw_1 : decode cX8_draw 1 = .ok (.getfield 7, 3) := by decide +kernel
theorem dX8_draw_4 : decode cX8_draw 4 = .ok (.iconst 2, 1) := by decide +kernel
theorem dX8_draw_5 : decode cX8_draw 5 = .ok (.aload_n 0, 1) := by decide +kernel
theorem dX8_draw_6 : decode cX8_draw 6 = .ok (.getfield 7, 3) := by decide +kernel
theorem dX8_draw_9 : decode cX8_draw 9 = .ok (.iconst 2, 1) := by decide +kernel
theorem dX8_draw_10 : decode cX8_draw 10 = .ok (.iaload, 1) := by decide +kernel
theorem dX8_draw_11 : decode cX8_draw 11 = .ok (.ldc 153, 2) := by decide +kernel
theorem dX8_draw_13 : decode cX8_draw 13 = .ok (.imul, 1) := by decide +kernel
theorem dX8_draw_14 : decode cX8_draw 14 = .ok (.sipush 12345, 3) := by decide +kernel
theorem dX8_draw_17 : decode cX8_draw 17 = .ok (.iadd, 1) := by decide +kernel
theorem dX8_draw_18 : decode cX8_draw 18 = .ok (.iastore, 1) := by decide +kernel
theorem dX8_draw_19 : decode cX8_draw 19 = .ok (.aload_n 0, 1) := by decide +kernel
theorem dX8_draw_20 : decode cX8_draw 20 = .ok (.getfield 7, 3) := by decide +kernel
theorem dX8_draw_23 : decode cX8_draw 23 = .ok (.iconst 2, 1) := by decide +kernel
theorem dX8_draw_24 : decode cX8_draw 24 = .ok (.iaload, 1) := by decide +kernel
theorem dX8_draw_25 : decode cX8_draw 25 = .ok (.bipush 8, 2) := by decide +kernel
theorem dX8_draw_27 : decode cX8_draw 27 = .ok (.iushr, 1) := by decide +kernel
theorem dX8_draw_28 : decode cX8_draw 28 = .ok (.ireturn, 1) := by decide +kernel
theorem dX8_dryOf_0 : decode cX8_dryOf 0 = .ok (.iconst 0, 1) := by decide +kernel
theorem dX8_dryOf_1 : decode cX8_dryOf 1 = .ok (.istore_n 2, 1) := by decide +kernel
theorem dX8_dryOf_2 : decode cX8_dryOf 2 = .ok (.iconst 0, 1) := by decide +kernel
theorem dX8_dryOf_3 : decode cX8_dryOf 3 = .ok (.istore_n 3, 1) := by decide +kernel
theorem dX8_dryOf_4 : decode cX8_dryOf 4 = .ok (.iload_n 3, 1) := by decide +kernel
theorem dX8_dryOf_5 : decode cX8_dryOf 5 = .ok (.aload_n 0, 1) := by decide +kernel
theorem dX8_dryOf_6 : decode cX8_dryOf 6 = .ok (.getfield 7, 3) := by decide +kernel
theorem dX8_dryOf_9 : decode cX8_dryOf 9 = .ok (.iconst 5, 1) := by decide +kernel
theorem dX8_dryOf_10 : decode cX8_dryOf 10 = .ok (.iaload, 1) := by decide +kernel
theorem dX8_dryOf_11 : decode cX8_dryOf 11 = .ok (.if_icmp .ge 31, 3) := by decide +kernel
theorem dX8_dryOf_14 : decode cX8_dryOf 14 = .ok (.iload_n 2, 1) := by decide +kernel
theorem dX8_dryOf_15 : decode cX8_dryOf 15 = .ok (.iload_n 1, 1) := by decide +kernel
theorem dX8_dryOf_16 : decode cX8_dryOf 16 = .ok (.iload_n 3, 1) := by decide +kernel
theorem dX8_dryOf_17 : decode cX8_dryOf 17 = .ok (.ishr, 1) := by decide +kernel
theorem dX8_dryOf_18 : decode cX8_dryOf 18 = .ok (.iconst 1, 1) := by decide +kernel
theorem dX8_dryOf_19 : decode cX8_dryOf 19 = .ok (.iand, 1) := by decide +kernel
theorem dX8_dryOf_20 : decode cX8_dryOf 20 = .ok (.iconst 1, 1) := by decide +kernel
theorem dX8_dryOf_21 : decode cX8_dryOf 21 = .ok (.if_icmp .ne 12, 3) := by decide +kernel
theorem dX8_dryOf_24 : decode cX8_dryOf 24 = .ok (.aload_n 0, 1) := by decide +kernel
theorem dX8_dryOf_25 : decode cX8_dryOf 25 = .ok (.iload_n 3, 1) := by decide +kernel
theorem dX8_dryOf_26 : decode cX8_dryOf 26 = .ok (.iconst 4, 1) := by decide +kernel
theorem dX8_dryOf_27 : decode cX8_dryOf 27 = .ok (.invokevirtual 123, 3) := by decide +kernel
theorem dX8_dryOf_30 : decode cX8_dryOf 30 = .ok (.goto 4, 3) := by decide +kernel
theorem dX8_dryOf_33 : decode cX8_dryOf 33 = .ok (.iconst 0, 1) := by decide +kernel
theorem dX8_dryOf_34 : decode cX8_dryOf 34 = .ok (.iadd, 1) := by decide +kernel
theorem dX8_dryOf_35 : decode cX8_dryOf 35 = .ok (.istore_n 2, 1) := by decide +kernel
theorem dX8_dryOf_36 : decode cX8_dryOf 36 = .ok (.iinc 3 1, 3) := by decide +kernel
theorem dX8_dryOf_39 : decode cX8_dryOf 39 = .ok (.goto (-35), 3) := by decide +kernel
theorem dX8_dryOf_42 : decode cX8_dryOf 42 = .ok (.iload_n 2, 1) := by decide +kernel
theorem dX8_dryOf_43 : decode cX8_dryOf 43 = .ok (.ireturn, 1) := by decide +kernel
theorem dX8_mayCarry_0 : decode cX8_mayCarry 0 = .ok (.aload_n 0, 1) := by decide +kernel
theorem dX8_mayCarry_1 : decode cX8_mayCarry 1 = .ok (.iload_n 2, 1) := by decide +kernel
theorem dX8_mayCarry_2 : decode cX8_mayCarry 2 = .ok (.invokevirtual 154, 3) := by decide +kernel
theorem dX8_mayCarry_5 : decode cX8_mayCarry 5 = .ok (.istore 4, 2) := by decide +kernel
theorem dX8_mayCarry_7 : decode cX8_mayCarry 7 = .ok (.iload 4, 2) := by decide +kernel
theorem dX8_mayCarry_9 : decode cX8_mayCarry 9 = .ok (.aload_n 0, 1) := by decide +kernel
theorem dX8_mayCarry_10 : decode cX8_mayCarry 10 = .ok (.iload_n 1, 1) := by decide +kernel
theorem dX8_mayCarry_11 : decode cX8_mayCarry 11 = .ok (.invokevirtual 157, 3) := by decide +kernel
theorem dX8_mayCarry_14 : decode cX8_mayCarry 14 = .ok (.if_icmp .gt 21, 3) := by decide +kernel
theorem dX8_mayCarry_17 : decode cX8_mayCarry 17 = .ok (.iload 4, 2) := by decide +kernel
theorem dX8_mayCarry_19 : decode cX8_mayCarry 19 = .ok (.aload_n 0, 1) := by decide +kernel
theorem dX8_mayCarry_20 : decode cX8_mayCarry 20 = .ok (.getfield 7, 3) := by decide +kernel
theorem dX8_mayCarry_23 : decode cX8_mayCarry 23 = .ok (.bipush 7, 2) := by decide +kernel
theorem dX8_mayCarry_25 : decode cX8_mayCarry 25 = .ok (.iload_n 3, 1) := by decide +kernel
theorem dX8_mayCarry_26 : decode cX8_mayCarry 26 = .ok (.iadd, 1) := by decide +kernel
theorem dX8_mayCarry_27 : decode cX8_mayCarry 27 = .ok (.iaload, 1) := by decide +kernel
theorem dX8_mayCarry_28 : decode cX8_mayCarry 28 = .ok (.if_icmp .gt 7, 3) := by decide +kernel
theorem dX8_mayCarry_31 : decode cX8_mayCarry 31 = .ok (.iconst 1, 1) := by decide +kernel
theorem dX8_mayCarry_32 : decode cX8_mayCarry 32 = .ok (.goto 4, 3) := by decide +kernel
theorem dX8_mayCarry_35 : decode cX8_mayCarry 35 = .ok (.iconst 0, 1) := by decide +kernel
theorem dX8_mayCarry_36 : decode cX8_mayCarry 36 = .ok (.ireturn, 1) := by decide +kernel
theorem dX8_carries_0 : decode cX8_carries 0 = .ok (.iconst 0, 1) := by decide +kernel
theorem dX8_carries_1 : decode cX8_carries 1 = .ok (.istore 4, 2) := by decide +kernel
theorem dX8_carries_3 : decode cX8_carries 3 = .ok (.aload_n 0, 1) := by decide +kernel
theorem dX8_carries_4 : decode cX8_carries 4 = .ok (.getfield 7, 3) := by decide +kernel
theorem dX8_carries_7 : decode cX8_carries 7 = .ok (.bipush 7, 2) := by decide +kernel
theorem dX8_carries_9 : decode cX8_carries 9 = .ok (.iload_n 3, 1) := by decide +kernel
theorem dX8_carries_10 : decode cX8_carries 10 = .ok (.iadd, 1) := by decide +kernel
theorem dX8_carries_11 : decode cX8_carries 11 = .ok (.dup2, 1) := by decide +kernel
theorem dX8_carries_12 : decode cX8_carries 12 = .ok (.iaload, 1) := by decide +kernel
theorem dX8_carries_13 : decode cX8_carries 13 = .ok (.aload_n 0, 1) := by decide +kernel
theorem dX8_carries_14 : decode cX8_carries 14 = .ok (.iload_n 2, 1) := by decide +kernel
theorem dX8_carries_15 : decode cX8_carries 15 = .ok (.invokevirtual 154, 3) := by decide +kernel
theorem dX8_carries_18 : decode cX8_carries 18 = .ok (.isub, 1) := by decide +kernel
theorem dX8_carries_19 : decode cX8_carries 19 = .ok (.iastore, 1) := by decide +kernel
theorem dX8_carries_20 : decode cX8_carries 20 = .ok (.iconst 0, 1) := by decide +kernel
theorem dX8_carries_21 : decode cX8_carries 21 = .ok (.istore 5, 2) := by decide +kernel
theorem dX8_carries_23 : decode cX8_carries 23 = .ok (.iload 5, 2) := by decide +kernel
theorem dX8_carries_25 : decode cX8_carries 25 = .ok (.aload_n 0, 1) := by decide +kernel
theorem dX8_carries_26 : decode cX8_carries 26 = .ok (.getfield 7, 3) := by decide +kernel
theorem dX8_carries_29 : decode cX8_carries 29 = .ok (.iconst 5, 1) := by decide +kernel
theorem dX8_carries_30 : decode cX8_carries 30 = .ok (.iaload, 1) := by decide +kernel
theorem dX8_carries_31 : decode cX8_carries 31 = .ok (.if_icmp .ge 66, 3) := by decide +kernel
theorem dX8_carries_34 : decode cX8_carries 34 = .ok (.iload_n 2, 1) := by decide +kernel
theorem dX8_carries_35 : decode cX8_carries 35 = .ok (.iload 5, 2) := by decide +kernel
theorem dX8_carries_37 : decode cX8_carries 37 = .ok (.ishr, 1) := by decide +kernel
theorem dX8_carries_38 : decode cX8_carries 38 = .ok (.iconst 1, 1) := by decide +kernel
theorem dX8_carries_39 : decode cX8_carries 39 = .ok (.iand, 1) := by decide +kernel
theorem dX8_carries_40 : decode cX8_carries 40 = .ok (.iconst 1, 1) := by decide +kernel
theorem dX8_carries_41 : decode cX8_carries 41 = .ok (.if_icmp .ne 50, 3) := by decide +kernel
theorem dX8_carries_44 : decode cX8_carries 44 = .ok (.iload 4, 2) := by decide +kernel
theorem dX8_carries_46 : decode cX8_carries 46 = .ok (.aload_n 0, 1) := by decide +kernel
theorem dX8_carries_47 : decode cX8_carries 47 = .ok (.iload 5, 2) := by decide +kernel
theorem dX8_carries_49 : decode cX8_carries 49 = .ok (.invokevirtual 160, 3) := by decide +kernel
theorem dX8_carries_52 : decode cX8_carries 52 = .ok (.iadd, 1) := by decide +kernel
theorem dX8_carries_53 : decode cX8_carries 53 = .ok (.istore 4, 2) := by decide +kernel
theorem dX8_carries_55 : decode cX8_carries 55 = .ok (.aload_n 0, 1) := by decide +kernel
theorem dX8_carries_56 : decode cX8_carries 56 = .ok (.iload 5, 2) := by decide +kernel
theorem dX8_carries_58 : decode cX8_carries 58 = .ok (.iconst 5, 1) := by decide +kernel
theorem dX8_carries_59 : decode cX8_carries 59 = .ok (.aload_n 0, 1) := by decide +kernel
theorem dX8_carries_60 : decode cX8_carries 60 = .ok (.iload 5, 2) := by decide +kernel
theorem dX8_carries_62 : decode cX8_carries 62 = .ok (.iconst 5, 1) := by decide +kernel
theorem dX8_carries_63 : decode cX8_carries 63 = .ok (.invokevirtual 123, 3) := by decide +kernel
theorem dX8_carries_66 : decode cX8_carries 66 = .ok (.aload_n 0, 1) := by decide +kernel
theorem dX8_carries_67 : decode cX8_carries 67 = .ok (.iload 5, 2) := by decide +kernel
theorem dX8_carries_69 : decode cX8_carries 69 = .ok (.iconst 4, 1) := by decide +kernel
theorem dX8_carries_70 : decode cX8_carries 70 = .ok (.invokevirtual 123, 3) := by decide +kernel
theorem dX8_carries_73 : decode cX8_carries 73 = .ok (.iadd, 1) := by decide +kernel
theorem dX8_carries_74 : decode cX8_carries 74 = .ok (.iconst 0, 1) := by decide +kernel
theorem dX8_carries_75 : decode cX8_carries 75 = .ok (.ldc 148, 2) := by decide +kernel
theorem dX8_carries_77 : decode cX8_carries 77 = .ok (.invokestatic 130, 3) := by decide +kernel
theorem dX8_carries_80 : decode cX8_carries 80 = .ok (.invokevirtual 149, 3) := by decide +kernel
theorem dX8_carries_83 : decode cX8_carries 83 = .ok (.aload_n 0, 1) := by decide +kernel
theorem dX8_carries_84 : decode cX8_carries 84 = .ok (.iload 5, 2) := by decide +kernel
theorem dX8_carries_86 : decode cX8_carries 86 = .ok (.iconst 4, 1) := by decide +kernel
theorem dX8_carries_87 : decode cX8_carries 87 = .ok (.iconst 0, 1) := by decide +kernel
theorem dX8_carries_88 : decode cX8_carries 88 = .ok (.invokevirtual 149, 3) := by decide +kernel
theorem dX8_carries_91 : decode cX8_carries 91 = .ok (.iinc 5 1, 3) := by decide +kernel
theorem dX8_carries_94 : decode cX8_carries 94 = .ok (.goto (-71), 3) := by decide +kernel
theorem dX8_carries_97 : decode cX8_carries 97 = .ok (.aload_n 0, 1) := by decide +kernel
theorem dX8_carries_98 : decode cX8_carries 98 = .ok (.getfield 7, 3) := by decide +kernel
theorem dX8_carries_101 : decode cX8_carries 101 = .ok (.bipush 52, 2) := by decide +kernel
theorem dX8_carries_103 : decode cX8_carries 103 = .ok (.iconst 2, 1) := by decide +kernel
theorem dX8_carries_104 : decode cX8_carries 104 = .ok (.iload_n 1, 1) := by decide +kernel
theorem dX8_carries_105 : decode cX8_carries 105 = .ok (.imul, 1) := by decide +kernel
theorem dX8_carries_106 : decode cX8_carries 106 = .ok (.iadd, 1) := by decide +kernel
theorem dX8_carries_107 : decode cX8_carries 107 = .ok (.iconst 1, 1) := by decide +kernel
theorem dX8_carries_108 : decode cX8_carries 108 = .ok (.iadd, 1) := by decide +kernel
theorem dX8_carries_109 : decode cX8_carries 109 = .ok (.aload_n 0, 1) := by decide +kernel
theorem dX8_carries_110 : decode cX8_carries 110 = .ok (.getfield 7, 3) := by decide +kernel
theorem dX8_carries_113 : decode cX8_carries 113 = .ok (.bipush 52, 2) := by decide +kernel
theorem dX8_carries_115 : decode cX8_carries 115 = .ok (.iconst 2, 1) := by decide +kernel
theorem dX8_carries_116 : decode cX8_carries 116 = .ok (.iload_n 1, 1) := by decide +kernel
theorem dX8_carries_117 : decode cX8_carries 117 = .ok (.imul, 1) := by decide +kernel
theorem dX8_carries_118 : decode cX8_carries 118 = .ok (.iadd, 1) := by decide +kernel
theorem dX8_carries_119 : decode cX8_carries 119 = .ok (.iconst 1, 1) := by decide +kernel
theorem dX8_carries_120 : decode cX8_carries 120 = .ok (.iadd, 1) := by decide +kernel
theorem dX8_carries_121 : decode cX8_carries 121 = .ok (.iaload, 1) := by decide +kernel
theorem dX8_carries_122 : decode cX8_carries 122 = .ok (.iload 4, 2) := by decide +kernel
theorem dX8_carries_124 : decode cX8_carries 124 = .ok (.iadd, 1) := by decide +kernel
theorem dX8_carries_125 : decode cX8_carries 125 = .ok (.iconst 0, 1) := by decide +kernel
theorem dX8_carries_126 : decode cX8_carries 126 = .ok (.ldc 148, 2) := by decide +kernel
theorem dX8_carries_128 : decode cX8_carries 128 = .ok (.invokestatic 130, 3) := by decide +kernel
theorem dX8_carries_131 : decode cX8_carries 131 = .ok (.iastore, 1) := by decide +kernel
theorem dX8_carries_132 : decode cX8_carries 132 = .ok (.iload 4, 2) := by decide +kernel
theorem dX8_carries_134 : decode cX8_carries 134 = .ok (.ireturn, 1) := by decide +kernel
theorem dX8_isKind_0 : decode cX8_isKind 0 = .ok (.iload_n 0, 1) := by decide +kernel
theorem dX8_isKind_1 : decode cX8_isKind 1 = .ok (.iconst 0, 1) := by decide +kernel
theorem dX8_isKind_2 : decode cX8_isKind 2 = .ok (.bipush 69, 2) := by decide +kernel
theorem dX8_isKind_4 : decode cX8_isKind 4 = .ok (.invokestatic 59, 3) := by decide +kernel
theorem dX8_isKind_7 : decode cX8_isKind 7 = .ok (.ireturn, 1) := by decide +kernel
theorem dX8_farm_0 : decode cX8_farm 0 = .ok (.iload_n 1, 1) := by decide +kernel
theorem dX8_farm_1 : decode cX8_farm 1 = .ok (.invokestatic 163, 3) := by decide +kernel
theorem dX8_farm_4 : decode cX8_farm 4 = .ok (.ifCond .eq 23, 3) := by decide +kernel
theorem dX8_farm_7 : decode cX8_farm 7 = .ok (.iload_n 2, 1) := by decide +kernel
theorem dX8_farm_8 : decode cX8_farm 8 = .ok (.iconst 1, 1) := by decide +kernel
theorem dX8_farm_9 : decode cX8_farm 9 = .ok (.bipush 40, 2) := by decide +kernel
theorem dX8_farm_11 : decode cX8_farm 11 = .ok (.invokestatic 59, 3) := by decide +kernel
theorem dX8_farm_14 : decode cX8_farm 14 = .ok (.ifCond .eq 13, 3) := by decide +kernel
theorem dX8_farm_17 : decode cX8_farm 17 = .ok (.iload_n 3, 1) := by decide +kernel
theorem dX8_farm_18 : decode cX8_farm 18 = .ok (.iconst 0, 1) := by decide +kernel
theorem dX8_farm_19 : decode cX8_farm 19 = .ok (.bipush 30, 2) := by decide +kernel
theorem dX8_farm_21 : decode cX8_farm 21 = .ok (.invokestatic 59, 3) := by decide +kernel
theorem dX8_farm_24 : decode cX8_farm 24 = .ok (.ifCond .ne 9, 3) := by decide +kernel
theorem dX8_farm_27 : decode cX8_farm 27 = .ok (.aload_n 0, 1) := by decide +kernel
theorem dX8_farm_28 : decode cX8_farm 28 = .ok (.iconst 1, 1) := by decide +kernel
theorem dX8_farm_29 : decode cX8_farm 29 = .ok (.invokevirtual 63, 3) := by decide +kernel
theorem dX8_farm_32 : decode cX8_farm 32 = .ok (.ireturn, 1) := by decide +kernel
theorem dX8_farm_33 : decode cX8_farm 33 = .ok (.aload_n 0, 1) := by decide +kernel
theorem dX8_farm_34 : decode cX8_farm 34 = .ok (.getfield 7, 3) := by decide +kernel
theorem dX8_farm_37 : decode cX8_farm 37 = .ok (.iconst 5, 1) := by decide +kernel
theorem dX8_farm_38 : decode cX8_farm 38 = .ok (.iaload, 1) := by decide +kernel
theorem dX8_farm_39 : decode cX8_farm 39 = .ok (.bipush 7, 2) := by decide +kernel
theorem dX8_farm_41 : decode cX8_farm 41 = .ok (.if_icmp .ne 9, 3) := by decide +kernel
theorem dX8_farm_44 : decode cX8_farm 44 = .ok (.aload_n 0, 1) := by decide +kernel
theorem dX8_farm_45 : decode cX8_farm 45 = .ok (.iconst 4, 1) := by decide +kernel
theorem dX8_farm_46 : decode cX8_farm 46 = .ok (.invokevirtual 63, 3) := by decide +kernel
theorem dX8_farm_49 : decode cX8_farm 49 = .ok (.ireturn, 1) := by decide +kernel
theorem dX8_farm_50 : decode cX8_farm 50 = .ok (.aload_n 0, 1) := by decide +kernel
theorem dX8_farm_51 : decode cX8_farm 51 = .ok (.getfield 7, 3) := by decide +kernel
theorem dX8_farm_54 : decode cX8_farm 54 = .ok (.iconst 5, 1) := by decide +kernel
theorem dX8_farm_55 : decode cX8_farm 55 = .ok (.iaload, 1) := by decide +kernel
theorem dX8_farm_56 : decode cX8_farm 56 = .ok (.istore 4, 2) := by decide +kernel
theorem dX8_farm_58 : decode cX8_farm 58 = .ok (.aload_n 0, 1) := by decide +kernel
theorem dX8_farm_59 : decode cX8_farm 59 = .ok (.iload 4, 2) := by decide +kernel
theorem dX8_farm_61 : decode cX8_farm 61 = .ok (.iconst 0, 1) := by decide +kernel
theorem dX8_farm_62 : decode cX8_farm 62 = .ok (.iload_n 1, 1) := by decide +kernel
theorem dX8_farm_63 : decode cX8_farm 63 = .ok (.bipush 10, 2) := by decide +kernel
theorem dX8_farm_65 : decode cX8_farm 65 = .ok (.idiv, 1) := by decide +kernel
theorem dX8_farm_66 : decode cX8_farm 66 = .ok (.invokevirtual 149, 3) := by decide +kernel
theorem dX8_farm_69 : decode cX8_farm 69 = .ok (.aload_n 0, 1) := by decide +kernel
theorem dX8_farm_70 : decode cX8_farm 70 = .ok (.iload 4, 2) := by decide +kernel
theorem dX8_farm_72 : decode cX8_farm 72 = .ok (.iconst 1, 1) := by decide +kernel
theorem dX8_farm_73 : decode cX8_farm 73 = .ok (.iload_n 1, 1) := by decide +kernel
theorem dX8_farm_74 : decode cX8_farm 74 = .ok (.bipush 10, 2) := by decide +kernel
theorem dX8_farm_76 : decode cX8_farm 76 = .ok (.irem, 1) := by decide +kernel
theorem dX8_farm_77 : decode cX8_farm 77 = .ok (.invokevirtual 149, 3) := by decide +kernel
theorem dX8_farm_80 : decode cX8_farm 80 = .ok (.aload_n 0, 1) := by decide +kernel
theorem dX8_farm_81 : decode cX8_farm 81 = .ok (.iload 4, 2) := by decide +kernel
theorem dX8_farm_83 : decode cX8_farm 83 = .ok (.iconst 2, 1) := by decide +kernel
theorem dX8_farm_84 : decode cX8_farm 84 = .ok (.iload_n 2, 1) := by decide +kernel
theorem dX8_farm_85 : decode cX8_farm 85 = .ok (.invokevirtual 149, 3) := by decide +kernel
theorem dX8_farm_88 : decode cX8_farm 88 = .ok (.aload_n 0, 1) := by decide +kernel
theorem dX8_farm_89 : decode cX8_farm 89 = .ok (.iload 4, 2) := by decide +kernel
theorem dX8_farm_91 : decode cX8_farm 91 = .ok (.iconst 3, 1) := by decide +kernel
theorem dX8_farm_92 : decode cX8_farm 92 = .ok (.iload_n 3, 1) := by decide +kernel
theorem dX8_farm_93 : decode cX8_farm 93 = .ok (.invokevirtual 149, 3) := by decide +kernel
theorem dX8_farm_96 : decode cX8_farm 96 = .ok (.aload_n 0, 1) := by decide +kernel
theorem dX8_farm_97 : decode cX8_farm 97 = .ok (.iload 4, 2) := by decide +kernel
theorem dX8_farm_99 : decode cX8_farm 99 = .ok (.iconst 4, 1) := by decide +kernel
theorem dX8_farm_100 : decode cX8_farm 100 = .ok (.iconst 0, 1) := by decide +kernel
theorem dX8_farm_101 : decode cX8_farm 101 = .ok (.invokevirtual 149, 3) := by decide +kernel
theorem dX8_farm_104 : decode cX8_farm 104 = .ok (.aload_n 0, 1) := by decide +kernel
theorem dX8_farm_105 : decode cX8_farm 105 = .ok (.iload 4, 2) := by decide +kernel
theorem dX8_farm_107 : decode cX8_farm 107 = .ok (.iconst 5, 1) := by decide +kernel
theorem dX8_farm_108 : decode cX8_farm 108 = .ok (.iconst 0, 1) := by decide +kernel
theorem dX8_farm_109 : decode cX8_farm 109 = .ok (.invokevirtual 149, 3) := by decide +kernel
theorem dX8_farm_112 : decode cX8_farm 112 = .ok (.aload_n 0, 1) := by decide +kernel
theorem dX8_farm_113 : decode cX8_farm 113 = .ok (.getfield 7, 3) := by decide +kernel
theorem dX8_farm_116 : decode cX8_farm 116 = .ok (.iconst 5, 1) := by decide +kernel
theorem dX8_farm_117 : decode cX8_farm 117 = .ok (.dup2, 1) := by decide +kernel
theorem dX8_farm_118 : decode cX8_farm 118 = .ok (.iaload, 1) := by decide +kernel
theorem dX8_farm_119 : decode cX8_farm 119 = .ok (.iconst 1, 1) := by decide +kernel
theorem dX8_farm_120 : decode cX8_farm 120 = .ok (.iadd, 1) := by decide +kernel
theorem dX8_farm_121 : decode cX8_farm 121 = .ok (.iastore, 1) := by decide +kernel
theorem dX8_farm_122 : decode cX8_farm 122 = .ok (.iload 4, 2) := by decide +kernel
theorem dX8_farm_124 : decode cX8_farm 124 = .ok (.ireturn, 1) := by decide +kernel
theorem dX8_farmIs_0 : decode cX8_farmIs 0 = .ok (.aload_n 0, 1) := by decide +kernel
theorem dX8_farmIs_1 : decode cX8_farmIs 1 = .ok (.iload_n 1, 1) := by decide +kernel
theorem dX8_farmIs_2 : decode cX8_farmIs 2 = .ok (.invokevirtual 166, 3) := by decide +kernel
theorem dX8_farmIs_5 : decode cX8_farmIs 5 = .ok (.ifCond .eq 13, 3) := by decide +kernel
theorem dX8_farmIs_8 : decode cX8_farmIs 8 = .ok (.iload_n 2, 1) := by decide +kernel
theorem dX8_farmIs_9 : decode cX8_farmIs 9 = .ok (.iconst 0, 1) := by decide +kernel
theorem dX8_farmIs_10 : decode cX8_farmIs 10 = .ok (.bipush 7, 2) := by decide +kernel
theorem dX8_farmIs_12 : decode cX8_farmIs 12 = .ok (.invokestatic 59, 3) := by decide +kernel
theorem dX8_farmIs_15 : decode cX8_farmIs 15 = .ok (.ifCond .ne 9, 3) := by decide +kernel
theorem dX8_farmIs_18 : decode cX8_farmIs 18 = .ok (.aload_n 0, 1) := by decide +kernel
theorem dX8_farmIs_19 : decode cX8_farmIs 19 = .ok (.iconst 1, 1) := by decide +kernel
theorem dX8_farmIs_20 : decode cX8_farmIs 20 = .ok (.invokevirtual 63, 3) := by decide +kernel
theorem dX8_farmIs_23 : decode cX8_farmIs 23 = .ok (.ireturn, 1) := by decide +kernel
theorem dX8_farmIs_24 : decode cX8_farmIs 24 = .ok (.iload_n 2, 1) := by decide +kernel
theorem dX8_farmIs_25 : decode cX8_farmIs 25 = .ok (.bipush 6, 2) := by decide +kernel
theorem dX8_farmIs_27 : decode cX8_farmIs 27 = .ok (.if_icmp .ge 12, 3) := by decide +kernel
theorem dX8_farmIs_30 : decode cX8_farmIs 30 = .ok (.aload_n 0, 1) := by decide +kernel
theorem dX8_farmIs_31 : decode cX8_farmIs 31 = .ok (.iload_n 1, 1) := by decide +kernel
theorem dX8_farmIs_32 : decode cX8_farmIs 32 = .ok (.iload_n 2, 1) := by decide +kernel
theorem dX8_farmIs_33 : decode cX8_farmIs 33 = .ok (.invokevirtual 123, 3) := by decide +kernel
theorem dX8_farmIs_36 : decode cX8_farmIs 36 = .ok (.goto 22, 3) := by decide +kernel
theorem dX8_farmIs_39 : decode cX8_farmIs 39 = .ok (.iload_n 2, 1) := by decide +kernel
theorem dX8_farmIs_40 : decode cX8_farmIs 40 = .ok (.bipush 6, 2) := by decide +kernel
theorem dX8_farmIs_42 : decode cX8_farmIs 42 = .ok (.if_icmp .ne 11, 3) := by decide +kernel
theorem dX8_farmIs_45 : decode cX8_farmIs 45 = .ok (.aload_n 0, 1) := by decide +kernel
theorem dX8_farmIs_46 : decode cX8_farmIs 46 = .ok (.iload_n 1, 1) := by decide +kernel
theorem dX8_farmIs_47 : decode cX8_farmIs 47 = .ok (.invokevirtual 145, 3) := by decide +kernel
theorem dX8_farmIs_50 : decode cX8_farmIs 50 = .ok (.goto 8, 3) := by decide +kernel
theorem dX8_farmIs_53 : decode cX8_farmIs 53 = .ok (.aload_n 0, 1) := by decide +kernel
theorem dX8_farmIs_54 : decode cX8_farmIs 54 = .ok (.iload_n 1, 1) := by decide +kernel
theorem dX8_farmIs_55 : decode cX8_farmIs 55 = .ok (.invokevirtual 160, 3) := by decide +kernel
theorem dX8_farmIs_58 : decode cX8_farmIs 58 = .ok (.ireturn, 1) := by decide +kernel
theorem dX8_become_0 : decode cX8_become 0 = .ok (.aload_n 0, 1) := by decide +kernel
theorem dX8_become_1 : decode cX8_become 1 = .ok (.iload_n 1, 1) := by decide +kernel
theorem dX8_become_2 : decode cX8_become 2 = .ok (.invokevirtual 166, 3) := by decide +kernel
theorem dX8_become_5 : decode cX8_become 5 = .ok (.ifCond .eq 10, 3) := by decide +kernel
theorem dX8_become_8 : decode cX8_become 8 = .ok (.iload_n 2, 1) := by decide +kernel
theorem dX8_become_9 : decode cX8_become 9 = .ok (.invokestatic 163, 3) := by decide +kernel
theorem dX8_become_12 : decode cX8_become 12 = .ok (.ifCond .ne 9, 3) := by decide +kernel
theorem dX8_become_15 : decode cX8_become 15 = .ok (.aload_n 0, 1) := by decide +kernel
theorem dX8_become_16 : decode cX8_become 16 = .ok (.iconst 1, 1) := by decide +kernel
theorem dX8_become_17 : decode cX8_become 17 = .ok (.invokevirtual 63, 3) := by decide +kernel
theorem dX8_become_20 : decode cX8_become 20 = .ok (.ireturn, 1) := by decide +kernel
theorem dX8_become_21 : decode cX8_become 21 = .ok (.aload_n 0, 1) := by decide +kernel
theorem dX8_become_22 : decode cX8_become 22 = .ok (.iload_n 1, 1) := by decide +kernel
theorem dX8_become_23 : decode cX8_become 23 = .ok (.iconst 1, 1) := by decide +kernel
theorem dX8_become_24 : decode cX8_become 24 = .ok (.iload_n 2, 1) := by decide +kernel
theorem dX8_become_25 : decode cX8_become 25 = .ok (.bipush 10, 2) := by decide +kernel
theorem dX8_become_27 : decode cX8_become 27 = .ok (.irem, 1) := by decide +kernel
theorem dX8_become_28 : decode cX8_become 28 = .ok (.invokevirtual 149, 3) := by decide +kernel
theorem dX8_become_31 : decode cX8_become 31 = .ok (.aload_n 0, 1) := by decide +kernel
theorem dX8_become_32 : decode cX8_become 32 = .ok (.bipush 10, 2) := by decide +kernel
theorem dX8_become_34 : decode cX8_become 34 = .ok (.bipush 6, 2) := by decide +kernel
theorem dX8_become_36 : decode cX8_become 36 = .ok (.iload_n 1, 1) := by decide +kernel
theorem dX8_become_37 : decode cX8_become 37 = .ok (.imul, 1) := by decide +kernel
theorem dX8_become_38 : decode cX8_become 38 = .ok (.iadd, 1) := by decide +kernel
theorem dX8_become_39 : decode cX8_become 39 = .ok (.iconst 0, 1) := by decide +kernel
theorem dX8_become_40 : decode cX8_become 40 = .ok (.iadd, 1) := by decide +kernel
theorem dX8_become_41 : decode cX8_become 41 = .ok (.iload_n 2, 1) := by decide +kernel
theorem dX8_become_42 : decode cX8_become 42 = .ok (.bipush 10, 2) := by decide +kernel
theorem dX8_become_44 : decode cX8_become 44 = .ok (.idiv, 1) := by decide +kernel
theorem dX8_become_45 : decode cX8_become 45 = .ok (.invokevirtual 169, 3) := by decide +kernel
theorem dX8_become_48 : decode cX8_become 48 = .ok (.ireturn, 1) := by decide +kernel
theorem dX8_as_0 : decode cX8_as 0 = .ok (.aload_n 0, 1) := by decide +kernel
theorem dX8_as_1 : decode cX8_as 1 = .ok (.iload_n 1, 1) := by decide +kernel
theorem dX8_as_2 : decode cX8_as 2 = .ok (.invokevirtual 166, 3) := by decide +kernel
theorem dX8_as_5 : decode cX8_as 5 = .ok (.ifCond .eq 13, 3) := by decide +kernel
theorem dX8_as_8 : decode cX8_as 8 = .ok (.iload_n 2, 1) := by decide +kernel
theorem dX8_as_9 : decode cX8_as 9 = .ok (.iconst 0, 1) := by decide +kernel
theorem dX8_as_10 : decode cX8_as 10 = .ok (.bipush 6, 2) := by decide +kernel
theorem dX8_as_12 : decode cX8_as 12 = .ok (.invokestatic 59, 3) := by decide +kernel
theorem dX8_as_15 : decode cX8_as 15 = .ok (.ifCond .ne 9, 3) := by decide +kernel
theorem dX8_as_18 : decode cX8_as 18 = .ok (.aload_n 0, 1) := by decide +kernel
theorem dX8_as_19 : decode cX8_as 19 = .ok (.iconst 1, 1) := by decide +kernel
theorem dX8_as_20 : decode cX8_as 20 = .ok (.invokevirtual 63, 3) := by decide +kernel
theorem dX8_as_23 : decode cX8_as 23 = .ok (.ireturn, 1) := by decide +kernel
theorem dX8_as_24 : decode cX8_as 24 = .ok (.aload_n 0, 1) := by decide +kernel
theorem dX8_as_25 : decode cX8_as 25 = .ok (.iload_n 1, 1) := by decide +kernel
theorem dX8_as_26 : decode cX8_as 26 = .ok (.iconst 0, 1) := by decide +kernel
theorem dX8_as_27 : decode cX8_as 27 = .ok (.invokevirtual 123, 3) := by decide +kernel
theorem dX8_as_30 : decode cX8_as 30 = .ok (.istore_n 3, 1) := by decide +kernel
theorem dX8_as_31 : decode cX8_as 31 = .ok (.iload_n 3, 1) := by decide +kernel
theorem dX8_as_32 : decode cX8_as 32 = .ok (.iload_n 2, 1) := by decide +kernel
theorem dX8_as_33 : decode cX8_as 33 = .ok (.if_icmp .eq 15, 3) := by decide +kernel
theorem dX8_as_36 : decode cX8_as 36 = .ok (.iload_n 3, 1) := by decide +kernel
theorem dX8_as_37 : decode cX8_as 37 = .ok (.ifCond .eq 11, 3) := by decide +kernel
theorem dX8_as_40 : decode cX8_as 40 = .ok (.iload_n 3, 1) := by decide +kernel
theorem dX8_as_41 : decode cX8_as 41 = .ok (.invokestatic 172, 3) := by decide +kernel
theorem dX8_as_44 : decode cX8_as 44 = .ok (.istore_n 3, 1) := by decide +kernel
theorem dX8_as_45 : decode cX8_as 45 = .ok (.goto (-14), 3) := by decide +kernel
theorem dX8_as_48 : decode cX8_as 48 = .ok (.iload_n 3, 1) := by decide +kernel
theorem dX8_as_49 : decode cX8_as 49 = .ok (.iload_n 2, 1) := by decide +kernel
theorem dX8_as_50 : decode cX8_as 50 = .ok (.if_icmp .ne 12, 3) := by decide +kernel
theorem dX8_as_53 : decode cX8_as 53 = .ok (.aload_n 0, 1) := by decide +kernel
theorem dX8_as_54 : decode cX8_as 54 = .ok (.iload_n 1, 1) := by decide +kernel
theorem dX8_as_55 : decode cX8_as 55 = .ok (.iconst 1, 1) := by decide +kernel
theorem dX8_as_56 : decode cX8_as 56 = .ok (.invokevirtual 123, 3) := by decide +kernel
theorem dX8_as_59 : decode cX8_as 59 = .ok (.goto 8, 3) := by decide +kernel
theorem dX8_as_62 : decode cX8_as 62 = .ok (.aload_n 0, 1) := by decide +kernel
theorem dX8_as_63 : decode cX8_as 63 = .ok (.iconst 5, 1) := by decide +kernel
theorem dX8_as_64 : decode cX8_as 64 = .ok (.invokevirtual 63, 3) := by decide +kernel
theorem dX8_as_67 : decode cX8_as 67 = .ok (.ireturn, 1) := by decide +kernel
theorem dX8_parch_0 : decode cX8_parch 0 = .ok (.aload_n 0, 1) := by decide +kernel
theorem dX8_parch_1 : decode cX8_parch 1 = .ok (.iload_n 1, 1) := by decide +kernel
theorem dX8_parch_2 : decode cX8_parch 2 = .ok (.invokevirtual 166, 3) := by decide +kernel
theorem dX8_parch_5 : decode cX8_parch 5 = .ok (.ifCond .eq 30, 3) := by decide +kernel
theorem dX8_parch_8 : decode cX8_parch 8 = .ok (.iload_n 2, 1) := by decide +kernel
theorem dX8_parch_9 : decode cX8_parch 9 = .ok (.iconst 0, 1) := by decide +kernel
theorem dX8_parch_10 : decode cX8_parch 10 = .ok (.bipush 99, 2) := by decide +kernel
theorem dX8_parch_12 : decode cX8_parch 12 = .ok (.invokestatic 59, 3) := by decide +kernel
theorem dX8_parch_15 : decode cX8_parch 15 = .ok (.ifCond .eq 20, 3) := by decide +kernel
theorem dX8_parch_18 : decode cX8_parch 18 = .ok (.aload_n 0, 1) := by decide +kernel
theorem dX8_parch_19 : decode cX8_parch 19 = .ok (.bipush 10, 2) := by decide +kernel
theorem dX8_parch_21 : decode cX8_parch 21 = .ok (.bipush 6, 2) := by decide +kernel
theorem dX8_parch_23 : decode cX8_parch 23 = .ok (.iload_n 1, 1) := by decide +kernel
theorem dX8_parch_24 : decode cX8_parch 24 = .ok (.imul, 1) := by decide +kernel
theorem dX8_parch_25 : decode cX8_parch 25 = .ok (.iadd, 1) := by decide +kernel
theorem dX8_parch_26 : decode cX8_parch 26 = .ok (.iconst 4, 1) := by decide +kernel
theorem dX8_parch_27 : decode cX8_parch 27 = .ok (.iadd, 1) := by decide +kernel
theorem dX8_parch_28 : decode cX8_parch 28 = .ok (.iload_n 2, 1) := by decide +kernel
theorem dX8_parch_29 : decode cX8_parch 29 = .ok (.invokevirtual 169, 3) := by decide +kernel
theorem dX8_parch_32 : decode cX8_parch 32 = .ok (.goto 8, 3) := by decide +kernel
theorem dX8_parch_35 : decode cX8_parch 35 = .ok (.aload_n 0, 1) := by decide +kernel
theorem dX8_parch_36 : decode cX8_parch 36 = .ok (.iconst 1, 1) := by decide +kernel
theorem dX8_parch_37 : decode cX8_parch 37 = .ok (.invokevirtual 63, 3) := by decide +kernel
theorem dX8_parch_40 : decode cX8_parch 40 = .ok (.ireturn, 1) := by decide +kernel
theorem dX8_graze_0 : decode cX8_graze 0 = .ok (.aload_n 0, 1) := by decide +kernel
theorem dX8_graze_1 : decode cX8_graze 1 = .ok (.iload_n 1, 1) := by decide +kernel
theorem dX8_graze_2 : decode cX8_graze 2 = .ok (.invokevirtual 166, 3) := by decide +kernel
theorem dX8_graze_5 : decode cX8_graze 5 = .ok (.ifCond .eq 30, 3) := by decide +kernel
theorem dX8_graze_8 : decode cX8_graze 8 = .ok (.iload_n 2, 1) := by decide +kernel
theorem dX8_graze_9 : decode cX8_graze 9 = .ok (.iconst 0, 1) := by decide +kernel
theorem dX8_graze_10 : decode cX8_graze 10 = .ok (.bipush 30, 2) := by decide +kernel
theorem dX8_graze_12 : decode cX8_graze 12 = .ok (.invokestatic 59, 3) := by decide +kernel
theorem dX8_graze_15 : decode cX8_graze 15 = .ok (.ifCond .eq 20, 3) := by decide +kernel
theorem dX8_graze_18 : decode cX8_graze 18 = .ok (.aload_n 0, 1) := by decide +kernel
theorem dX8_graze_19 : decode cX8_graze 19 = .ok (.bipush 10, 2) := by decide +kernel
theorem dX8_graze_21 : decode cX8_graze 21 = .ok (.bipush 6, 2) := by decide +kernel
theorem dX8_graze_23 : decode cX8_graze 23 = .ok (.iload_n 1, 1) := by decide +kernel
theorem dX8_graze_24 : decode cX8_graze 24 = .ok (.imul, 1) := by decide +kernel
theorem dX8_graze_25 : decode cX8_graze 25 = .ok (.iadd, 1) := by decide +kernel
theorem dX8_graze_26 : decode cX8_graze 26 = .ok (.iconst 3, 1) := by decide +kernel
theorem dX8_graze_27 : decode cX8_graze 27 = .ok (.iadd, 1) := by decide +kernel
theorem dX8_graze_28 : decode cX8_graze 28 = .ok (.iload_n 2, 1) := by decide +kernel
theorem dX8_graze_29 : decode cX8_graze 29 = .ok (.invokevirtual 169, 3) := by decide +kernel
theorem dX8_graze_32 : decode cX8_graze 32 = .ok (.goto 8, 3) := by decide +kernel
theorem dX8_graze_35 : decode cX8_graze 35 = .ok (.aload_n 0, 1) := by decide +kernel
theorem dX8_graze_36 : decode cX8_graze 36 = .ok (.iconst 1, 1) := by decide +kernel
theorem dX8_graze_37 : decode cX8_graze 37 = .ok (.invokevirtual 63, 3) := by decide +kernel
theorem dX8_graze_40 : decode cX8_graze 40 = .ok (.ireturn, 1) := by decide +kernel
theorem dX8_carrier_0 : decode cX8_carrier 0 = .ok (.iload_n 1, 1) := by decide +kernel
theorem dX8_carrier_1 : decode cX8_carrier 1 = .ok (.iconst 1, 1) := by decide +kernel
theorem dX8_carrier_2 : decode cX8_carrier 2 = .ok (.sipush 300, 3) := by decide +kernel
theorem dX8_carrier_5 : decode cX8_carrier 5 = .ok (.invokestatic 59, 3) := by decide +kernel
theorem dX8_carrier_8 : decode cX8_carrier 8 = .ok (.ifCond .ne 9, 3) := by decide +kernel
theorem dX8_carrier_11 : decode cX8_carrier 11 = .ok (.aload_n 0, 1) := by decide +kernel
theorem dX8_carrier_12 : decode cX8_carrier 12 = .ok (.iconst 1, 1) := by decide +kernel
theorem dX8_carrier_13 : decode cX8_carrier 13 = .ok (.invokevirtual 63, 3) := by decide +kernel
theorem dX8_carrier_16 : decode cX8_carrier 16 = .ok (.ireturn, 1) := by decide +kernel
theorem dX8_carrier_17 : decode cX8_carrier 17 = .ok (.aload_n 0, 1) := by decide +kernel
theorem dX8_carrier_18 : decode cX8_carrier 18 = .ok (.getfield 7, 3) := by decide +kernel
theorem dX8_carrier_21 : decode cX8_carrier 21 = .ok (.bipush 6, 2) := by decide +kernel
theorem dX8_carrier_23 : decode cX8_carrier 23 = .ok (.iaload, 1) := by decide +kernel
theorem dX8_carrier_24 : decode cX8_carrier 24 = .ok (.iconst 4, 1) := by decide +kernel
theorem dX8_carrier_25 : decode cX8_carrier 25 = .ok (.if_icmp .ne 9, 3) := by decide +kernel
theorem dX8_carrier_28 : decode cX8_carrier 28 = .ok (.aload_n 0, 1) := by decide +kernel
theorem dX8_carrier_29 : decode cX8_carrier 29 = .ok (.iconst 4, 1) := by decide +kernel
theorem dX8_carrier_30 : decode cX8_carrier 30 = .ok (.invokevirtual 63, 3) := by decide +kernel
theorem dX8_carrier_33 : decode cX8_carrier 33 = .ok (.ireturn, 1) := by decide +kernel
theorem dX8_carrier_34 : decode cX8_carrier 34 = .ok (.aload_n 0, 1) := by decide +kernel
theorem dX8_carrier_35 : decode cX8_carrier 35 = .ok (.getfield 7, 3) := by decide +kernel
theorem dX8_carrier_38 : decode cX8_carrier 38 = .ok (.bipush 6, 2) := by decide +kernel
theorem dX8_carrier_40 : decode cX8_carrier 40 = .ok (.iaload, 1) := by decide +kernel
theorem dX8_carrier_41 : decode cX8_carrier 41 = .ok (.istore_n 2, 1) := by decide +kernel
theorem dX8_carrier_42 : decode cX8_carrier 42 = .ok (.aload_n 0, 1) := by decide +kernel
theorem dX8_carrier_43 : decode cX8_carrier 43 = .ok (.getfield 7, 3) := by decide +kernel
theorem dX8_carrier_46 : decode cX8_carrier 46 = .ok (.bipush 52, 2) := by decide +kernel
theorem dX8_carrier_48 : decode cX8_carrier 48 = .ok (.iconst 2, 1) := by decide +kernel
theorem dX8_carrier_49 : decode cX8_carrier 49 = .ok (.iload_n 2, 1) := by decide +kernel
theorem dX8_carrier_50 : decode cX8_carrier 50 = .ok (.imul, 1) := by decide +kernel
theorem dX8_carrier_51 : decode cX8_carrier 51 = .ok (.iadd, 1) := by decide +kernel
theorem dX8_carrier_52 : decode cX8_carrier 52 = .ok (.iload_n 1, 1) := by decide +kernel
theorem dX8_carrier_53 : decode cX8_carrier 53 = .ok (.iastore, 1) := by decide +kernel
theorem dX8_carrier_54 : decode cX8_carrier 54 = .ok (.aload_n 0, 1) := by decide +kernel
theorem dX8_carrier_55 : decode cX8_carrier 55 = .ok (.getfield 7, 3) := by decide +kernel
theorem dX8_carrier_58 : decode cX8_carrier 58 = .ok (.bipush 52, 2) := by decide +kernel
theorem dX8_carrier_60 : decode cX8_carrier 60 = .ok (.iconst 2, 1) := by decide +kernel
theorem dX8_carrier_61 : decode cX8_carrier 61 = .ok (.iload_n 2, 1) := by decide +kernel
theorem dX8_carrier_62 : decode cX8_carrier 62 = .ok (.imul, 1) := by decide +kernel
theorem dX8_carrier_63 : decode cX8_carrier 63 = .ok (.iadd, 1) := by decide +kernel
theorem dX8_carrier_64 : decode cX8_carrier 64 = .ok (.iconst 1, 1) := by decide +kernel
theorem dX8_carrier_65 : decode cX8_carrier 65 = .ok (.iadd, 1) := by decide +kernel
theorem dX8_carrier_66 : decode cX8_carrier 66 = .ok (.iconst 0, 1) := by decide +kernel
theorem dX8_carrier_67 : decode cX8_carrier 67 = .ok (.iastore, 1) := by decide +kernel
theorem dX8_carrier_68 : decode cX8_carrier 68 = .ok (.aload_n 0, 1) := by decide +kernel
theorem dX8_carrier_69 : decode cX8_carrier 69 = .ok (.getfield 7, 3) := by decide +kernel
theorem dX8_carrier_72 : decode cX8_carrier 72 = .ok (.bipush 6, 2) := by decide +kernel
theorem dX8_carrier_74 : decode cX8_carrier 74 = .ok (.dup2, 1) := by decide +kernel
theorem dX8_carrier_75 : decode cX8_carrier 75 = .ok (.iaload, 1) := by decide +kernel
theorem dX8_carrier_76 : decode cX8_carrier 76 = .ok (.iconst 1, 1) := by decide +kernel
theorem dX8_carrier_77 : decode cX8_carrier 77 = .ok (.iadd, 1) := by decide +kernel
theorem dX8_carrier_78 : decode cX8_carrier 78 = .ok (.iastore, 1) := by decide +kernel
theorem dX8_carrier_79 : decode cX8_carrier 79 = .ok (.iload_n 2, 1) := by decide +kernel
theorem dX8_carrier_80 : decode cX8_carrier 80 = .ok (.ireturn, 1) := by decide +kernel
theorem dX8_carrierIs_0 : decode cX8_carrierIs 0 = .ok (.aload_n 0, 1) := by decide +kernel
theorem dX8_carrierIs_1 : decode cX8_carrierIs 1 = .ok (.iload_n 1, 1) := by decide +kernel
theorem dX8_carrierIs_2 : decode cX8_carrierIs 2 = .ok (.invokevirtual 175, 3) := by decide +kernel
theorem dX8_carrierIs_5 : decode cX8_carrierIs 5 = .ok (.ifCond .eq 28, 3) := by decide +kernel
theorem dX8_carrierIs_8 : decode cX8_carrierIs 8 = .ok (.iload_n 2, 1) := by decide +kernel
theorem dX8_carrierIs_9 : decode cX8_carrierIs 9 = .ok (.iconst 0, 1) := by decide +kernel
theorem dX8_carrierIs_10 : decode cX8_carrierIs 10 = .ok (.iconst 1, 1) := by decide +kernel
theorem dX8_carrierIs_11 : decode cX8_carrierIs 11 = .ok (.invokestatic 59, 3) := by decide +kernel
theorem dX8_carrierIs_14 : decode cX8_carrierIs 14 = .ok (.ifCond .eq 19, 3) := by decide +kernel
theorem dX8_carrierIs_17 : decode cX8_carrierIs 17 = .ok (.aload_n 0, 1) := by decide +kernel
theorem dX8_carrierIs_18 : decode cX8_carrierIs 18 = .ok (.getfield 7, 3) := by decide +kernel
theorem dX8_carrierIs_21 : decode cX8_carrierIs 21 = .ok (.bipush 52, 2) := by decide +kernel
theorem dX8_carrierIs_23 : decode cX8_carrierIs 23 = .ok (.iconst 2, 1) := by decide +kernel
theorem dX8_carrierIs_24 : decode cX8_carrierIs 24 = .ok (.iload_n 1, 1) := by decide +kernel
theorem dX8_carrierIs_25 : decode cX8_carrierIs 25 = .ok (.imul, 1) := by decide +kernel
theorem dX8_carrierIs_26 : decode cX8_carrierIs 26 = .ok (.iadd, 1) := by decide +kernel
theorem dX8_carrierIs_27 : decode cX8_carrierIs 27 = .ok (.iload_n 2, 1) := by decide +kernel
theorem dX8_carrierIs_28 : decode cX8_carrierIs 28 = .ok (.iadd, 1) := by decide +kernel
theorem dX8_carrierIs_29 : decode cX8_carrierIs 29 = .ok (.iaload, 1) := by decide +kernel
theorem dX8_carrierIs_30 : decode cX8_carrierIs 30 = .ok (.goto 8, 3) := by decide +kernel
theorem dX8_carrierIs_33 : decode cX8_carrierIs 33 = .ok (.aload_n 0, 1) := by decide +kernel
theorem dX8_carrierIs_34 : decode cX8_carrierIs 34 = .ok (.iconst 1, 1) := by decide +kernel
theorem dX8_carrierIs_35 : decode cX8_carrierIs 35 = .ok (.invokevirtual 63, 3) := by decide +kernel
theorem dX8_carrierIs_38 : decode cX8_carrierIs 38 = .ok (.ireturn, 1) := by decide +kernel
theorem dX8_pool_0 : decode cX8_pool 0 = .ok (.iload_n 1, 1) := by decide +kernel
theorem dX8_pool_1 : decode cX8_pool 1 = .ok (.iconst 0, 1) := by decide +kernel
theorem dX8_pool_2 : decode cX8_pool 2 = .ok (.iconst 2, 1) := by decide +kernel
theorem dX8_pool_3 : decode cX8_pool 3 = .ok (.invokestatic 59, 3) := by decide +kernel
theorem dX8_pool_6 : decode cX8_pool 6 = .ok (.ifCond .eq 26, 3) := by decide +kernel
theorem dX8_pool_9 : decode cX8_pool 9 = .ok (.iload_n 2, 1) := by decide +kernel
theorem dX8_pool_10 : decode cX8_pool 10 = .ok (.iconst 0, 1) := by decide +kernel
theorem dX8_pool_11 : decode cX8_pool 11 = .ok (.sipush 999, 3) := by decide +kernel
theorem dX8_pool_14 : decode cX8_pool 14 = .ok (.invokestatic 59, 3) := by decide +kernel
theorem dX8_pool_17 : decode cX8_pool 17 = .ok (.ifCond .eq 15, 3) := by decide +kernel
theorem dX8_pool_20 : decode cX8_pool 20 = .ok (.aload_n 0, 1) := by decide +kernel
theorem dX8_pool_21 : decode cX8_pool 21 = .ok (.bipush 7, 2) := by decide +kernel
theorem dX8_pool_23 : decode cX8_pool 23 = .ok (.iload_n 1, 1) := by decide +kernel
theorem dX8_pool_24 : decode cX8_pool 24 = .ok (.iadd, 1) := by decide +kernel
theorem dX8_pool_25 : decode cX8_pool 25 = .ok (.iload_n 2, 1) := by decide +kernel
theorem dX8_pool_26 : decode cX8_pool 26 = .ok (.invokevirtual 169, 3) := by decide +kernel
theorem dX8_pool_29 : decode cX8_pool 29 = .ok (.goto 8, 3) := by decide +kernel
theorem dX8_pool_32 : decode cX8_pool 32 = .ok (.aload_n 0, 1) := by decide +kernel
theorem dX8_pool_33 : decode cX8_pool 33 = .ok (.iconst 1, 1) := by decide +kernel
theorem dX8_pool_34 : decode cX8_pool 34 = .ok (.invokevirtual 63, 3) := by decide +kernel
theorem dX8_pool_37 : decode cX8_pool 37 = .ok (.ireturn, 1) := by decide +kernel
theorem dX8_swap_0 : decode cX8_swap 0 = .ok (.aload_n 0, 1) := by decide +kernel
theorem dX8_swap_1 : decode cX8_swap 1 = .ok (.iload_n 1, 1) := by decide +kernel
theorem dX8_swap_2 : decode cX8_swap 2 = .ok (.invokevirtual 166, 3) := by decide +kernel
theorem dX8_swap_5 : decode cX8_swap 5 = .ok (.ifCond .eq 16, 3) := by decide +kernel
theorem dX8_swap_8 : decode cX8_swap 8 = .ok (.aload_n 0, 1) := by decide +kernel
theorem dX8_swap_9 : decode cX8_swap 9 = .ok (.iload_n 2, 1) := by decide +kernel
theorem dX8_swap_10 : decode cX8_swap 10 = .ok (.invokevirtual 166, 3) := by decide +kernel
theorem dX8_swap_13 : decode cX8_swap 13 = .ok (.ifCond .eq 8, 3) := by decide +kernel
theorem dX8_swap_16 : decode cX8_swap 16 = .ok (.iload_n 1, 1) := by decide +kernel
theorem dX8_swap_17 : decode cX8_swap 17 = .ok (.iload_n 2, 1) := by decide +kernel
theorem dX8_swap_18 : decode cX8_swap 18 = .ok (.if_icmp .ne 9, 3) := by decide +kernel
theorem dX8_swap_21 : decode cX8_swap 21 = .ok (.aload_n 0, 1) := by decide +kernel
theorem dX8_swap_22 : decode cX8_swap 22 = .ok (.iconst 1, 1) := by decide +kernel
theorem dX8_swap_23 : decode cX8_swap 23 = .ok (.invokevirtual 63, 3) := by decide +kernel
theorem dX8_swap_26 : decode cX8_swap 26 = .ok (.ireturn, 1) := by decide +kernel
theorem dX8_swap_27 : decode cX8_swap 27 = .ok (.aload_n 0, 1) := by decide +kernel
theorem dX8_swap_28 : decode cX8_swap 28 = .ok (.iload_n 1, 1) := by decide +kernel
theorem dX8_swap_29 : decode cX8_swap 29 = .ok (.iconst 4, 1) := by decide +kernel
theorem dX8_swap_30 : decode cX8_swap 30 = .ok (.invokevirtual 123, 3) := by decide +kernel
theorem dX8_swap_33 : decode cX8_swap 33 = .ok (.istore_n 3, 1) := by decide +kernel
theorem dX8_swap_34 : decode cX8_swap 34 = .ok (.aload_n 0, 1) := by decide +kernel
theorem dX8_swap_35 : decode cX8_swap 35 = .ok (.iload_n 1, 1) := by decide +kernel
theorem dX8_swap_36 : decode cX8_swap 36 = .ok (.iconst 4, 1) := by decide +kernel
theorem dX8_swap_37 : decode cX8_swap 37 = .ok (.aload_n 0, 1) := by decide +kernel
theorem dX8_swap_38 : decode cX8_swap 38 = .ok (.iload_n 2, 1) := by decide +kernel
theorem dX8_swap_39 : decode cX8_swap 39 = .ok (.iconst 4, 1) := by decide +kernel
theorem dX8_swap_40 : decode cX8_swap 40 = .ok (.invokevirtual 123, 3) := by decide +kernel
theorem dX8_swap_43 : decode cX8_swap 43 = .ok (.invokevirtual 149, 3) := by decide +kernel
theorem dX8_swap_46 : decode cX8_swap 46 = .ok (.aload_n 0, 1) := by decide +kernel
theorem dX8_swap_47 : decode cX8_swap 47 = .ok (.iload_n 2, 1) := by decide +kernel
theorem dX8_swap_48 : decode cX8_swap 48 = .ok (.iconst 4, 1) := by decide +kernel
theorem dX8_swap_49 : decode cX8_swap 49 = .ok (.iload_n 3, 1) := by decide +kernel
theorem dX8_swap_50 : decode cX8_swap 50 = .ok (.invokevirtual 149, 3) := by decide +kernel
theorem dX8_swap_53 : decode cX8_swap 53 = .ok (.aload_n 0, 1) := by decide +kernel
theorem dX8_swap_54 : decode cX8_swap 54 = .ok (.iload_n 1, 1) := by decide +kernel
theorem dX8_swap_55 : decode cX8_swap 55 = .ok (.iconst 4, 1) := by decide +kernel
theorem dX8_swap_56 : decode cX8_swap 56 = .ok (.invokevirtual 123, 3) := by decide +kernel
theorem dX8_swap_59 : decode cX8_swap 59 = .ok (.ireturn, 1) := by decide +kernel
theorem dX8_carry_0 : decode cX8_carry 0 = .ok (.aload_n 0, 1) := by decide +kernel
theorem dX8_carry_1 : decode cX8_carry 1 = .ok (.iload_n 1, 1) := by decide +kernel
theorem dX8_carry_2 : decode cX8_carry 2 = .ok (.invokevirtual 175, 3) := by decide +kernel
theorem dX8_carry_5 : decode cX8_carry 5 = .ok (.ifCond .eq 30, 3) := by decide +kernel
theorem dX8_carry_8 : decode cX8_carry 8 = .ok (.iload_n 2, 1) := by decide +kernel
theorem dX8_carry_9 : decode cX8_carry 9 = .ok (.iconst 1, 1) := by decide +kernel
theorem dX8_carry_10 : decode cX8_carry 10 = .ok (.iconst 1, 1) := by decide +kernel
theorem dX8_carry_11 : decode cX8_carry 11 = .ok (.aload_n 0, 1) := by decide +kernel
theorem dX8_carry_12 : decode cX8_carry 12 = .ok (.getfield 7, 3) := by decide +kernel
theorem dX8_carry_15 : decode cX8_carry 15 = .ok (.iconst 5, 1) := by decide +kernel
theorem dX8_carry_16 : decode cX8_carry 16 = .ok (.iaload, 1) := by decide +kernel
theorem dX8_carry_17 : decode cX8_carry 17 = .ok (.ishl, 1) := by decide +kernel
theorem dX8_carry_18 : decode cX8_carry 18 = .ok (.iconst 1, 1) := by decide +kernel
theorem dX8_carry_19 : decode cX8_carry 19 = .ok (.isub, 1) := by decide +kernel
theorem dX8_carry_20 : decode cX8_carry 20 = .ok (.invokestatic 59, 3) := by decide +kernel
theorem dX8_carry_23 : decode cX8_carry 23 = .ok (.ifCond .eq 12, 3) := by decide +kernel
theorem dX8_carry_26 : decode cX8_carry 26 = .ok (.iload_n 3, 1) := by decide +kernel
theorem dX8_carry_27 : decode cX8_carry 27 = .ok (.iconst 0, 1) := by decide +kernel
theorem dX8_carry_28 : decode cX8_carry 28 = .ok (.iconst 2, 1) := by decide +kernel
theorem dX8_carry_29 : decode cX8_carry 29 = .ok (.invokestatic 59, 3) := by decide +kernel
theorem dX8_carry_32 : decode cX8_carry 32 = .ok (.ifCond .ne 9, 3) := by decide +kernel
theorem dX8_carry_35 : decode cX8_carry 35 = .ok (.aload_n 0, 1) := by decide +kernel
theorem dX8_carry_36 : decode cX8_carry 36 = .ok (.iconst 1, 1) := by decide +kernel
theorem dX8_carry_37 : decode cX8_carry 37 = .ok (.invokevirtual 63, 3) := by decide +kernel
theorem dX8_carry_40 : decode cX8_carry 40 = .ok (.ireturn, 1) := by decide +kernel
theorem dX8_carry_41 : decode cX8_carry 41 = .ok (.aload_n 0, 1) := by decide +kernel
theorem dX8_carry_42 : decode cX8_carry 42 = .ok (.iload_n 1, 1) := by decide +kernel
theorem dX8_carry_43 : decode cX8_carry 43 = .ok (.iload_n 2, 1) := by decide +kernel
theorem dX8_carry_44 : decode cX8_carry 44 = .ok (.iload_n 3, 1) := by decide +kernel
theorem dX8_carry_45 : decode cX8_carry 45 = .ok (.invokevirtual 178, 3) := by decide +kernel
theorem dX8_carry_48 : decode cX8_carry 48 = .ok (.ifCond .eq 13, 3) := by decide +kernel
theorem dX8_carry_51 : decode cX8_carry 51 = .ok (.aload_n 0, 1) := by decide +kernel
theorem dX8_carry_52 : decode cX8_carry 52 = .ok (.iload_n 1, 1) := by decide +kernel
theorem dX8_carry_53 : decode cX8_carry 53 = .ok (.iload_n 2, 1) := by decide +kernel
theorem dX8_carry_54 : decode cX8_carry 54 = .ok (.iload_n 3, 1) := by decide +kernel
theorem dX8_carry_55 : decode cX8_carry 55 = .ok (.invokevirtual 181, 3) := by decide +kernel
theorem dX8_carry_58 : decode cX8_carry 58 = .ok (.goto 8, 3) := by decide +kernel
theorem dX8_carry_61 : decode cX8_carry 61 = .ok (.aload_n 0, 1) := by decide +kernel
theorem dX8_carry_62 : decode cX8_carry 62 = .ok (.iconst 3, 1) := by decide +kernel
theorem dX8_carry_63 : decode cX8_carry 63 = .ok (.invokevirtual 63, 3) := by decide +kernel
theorem dX8_carry_66 : decode cX8_carry 66 = .ok (.ireturn, 1) := by decide +kernel
theorem dX8_law_0 : decode cX8_law 0 = .ok (.iload_n 1, 1) := by decide +kernel
theorem dX8_law_1 : decode cX8_law 1 = .ok (.iconst 0, 1) := by decide +kernel
theorem dX8_law_2 : decode cX8_law 2 = .ok (.iconst 1, 1) := by decide +kernel
theorem dX8_law_3 : decode cX8_law 3 = .ok (.invokestatic 59, 3) := by decide +kernel
theorem dX8_law_6 : decode cX8_law 6 = .ok (.ifCond .ne 9, 3) := by decide +kernel
theorem dX8_law_9 : decode cX8_law 9 = .ok (.aload_n 0, 1) := by decide +kernel
theorem dX8_law_10 : decode cX8_law 10 = .ok (.iconst 1, 1) := by decide +kernel
theorem dX8_law_11 : decode cX8_law 11 = .ok (.invokevirtual 63, 3) := by decide +kernel
theorem dX8_law_14 : decode cX8_law 14 = .ok (.ireturn, 1) := by decide +kernel
theorem dX8_law_15 : decode cX8_law 15 = .ok (.iload_n 1, 1) := by decide +kernel
theorem dX8_law_16 : decode cX8_law 16 = .ok (.ifCond .ne 14, 3) := by decide +kernel
theorem dX8_law_19 : decode cX8_law 19 = .ok (.aload_n 0, 1) := by decide +kernel
theorem dX8_law_20 : decode cX8_law 20 = .ok (.iload_n 2, 1) := by decide +kernel
theorem dX8_law_21 : decode cX8_law 21 = .ok (.iload_n 3, 1) := by decide +kernel
theorem dX8_law_22 : decode cX8_law 22 = .ok (.iload 4, 2) := by decide +kernel
theorem dX8_law_24 : decode cX8_law 24 = .ok (.invokevirtual 136, 3) := by decide +kernel
theorem dX8_law_27 : decode cX8_law 27 = .ok (.goto 11, 3) := by decide +kernel
theorem dX8_law_30 : decode cX8_law 30 = .ok (.aload_n 0, 1) := by decide +kernel
theorem dX8_law_31 : decode cX8_law 31 = .ok (.iload_n 2, 1) := by decide +kernel
theorem dX8_law_32 : decode cX8_law 32 = .ok (.iload_n 3, 1) := by decide +kernel
theorem dX8_law_33 : decode cX8_law 33 = .ok (.iload 4, 2) := by decide +kernel
theorem dX8_law_35 : decode cX8_law 35 = .ok (.invokevirtual 142, 3) := by decide +kernel
theorem dX8_law_38 : decode cX8_law 38 = .ok (.ireturn, 1) := by decide +kernel
theorem dX8_whyNot_0 : decode cX8_whyNot 0 = .ok (.iload_n 1, 1) := by decide +kernel
theorem dX8_whyNot_1 : decode cX8_whyNot 1 = .ok (.iconst 1, 1) := by decide +kernel
theorem dX8_whyNot_2 : decode cX8_whyNot 2 = .ok (.iload_n 2, 1) := by decide +kernel
theorem dX8_whyNot_3 : decode cX8_whyNot 3 = .ok (.invokestatic 59, 3) := by decide +kernel
theorem dX8_whyNot_6 : decode cX8_whyNot 6 = .ok (.ifCond .ne 7, 3) := by decide +kernel
theorem dX8_whyNot_9 : decode cX8_whyNot 9 = .ok (.iconst 1, 1) := by decide +kernel
theorem dX8_whyNot_10 : decode cX8_whyNot 10 = .ok (.goto 22, 3) := by decide +kernel
theorem dX8_whyNot_13 : decode cX8_whyNot 13 = .ok (.aload_n 0, 1) := by decide +kernel
theorem dX8_whyNot_14 : decode cX8_whyNot 14 = .ok (.getfield 7, 3) := by decide +kernel
theorem dX8_whyNot_17 : decode cX8_whyNot 17 = .ok (.iconst 0, 1) := by decide +kernel
theorem dX8_whyNot_18 : decode cX8_whyNot 18 = .ok (.iaload, 1) := by decide +kernel
theorem dX8_whyNot_19 : decode cX8_whyNot 19 = .ok (.iload_n 1, 1) := by decide +kernel
theorem dX8_whyNot_20 : decode cX8_whyNot 20 = .ok (.iadd, 1) := by decide +kernel
theorem dX8_whyNot_21 : decode cX8_whyNot 21 = .ok (.sipush 9999, 3) := by decide +kernel
theorem dX8_whyNot_24 : decode cX8_whyNot 24 = .ok (.if_icmp .le 7, 3) := by decide +kernel
theorem dX8_whyNot_27 : decode cX8_whyNot 27 = .ok (.iconst 3, 1) := by decide +kernel
theorem dX8_whyNot_28 : decode cX8_whyNot 28 = .ok (.goto 4, 3) := by decide +kernel
theorem dX8_whyNot_31 : decode cX8_whyNot 31 = .ok (.iconst 0, 1) := by decide +kernel
theorem dX8_whyNot_32 : decode cX8_whyNot 32 = .ok (.ireturn, 1) := by decide +kernel
theorem dX8_hours_0 : decode cX8_hours 0 = .ok (.aload_n 0, 1) := by decide +kernel
theorem dX8_hours_1 : decode cX8_hours 1 = .ok (.iload_n 1, 1) := by decide +kernel
theorem dX8_hours_2 : decode cX8_hours 2 = .ok (.bipush 72, 2) := by decide +kernel
theorem dX8_hours_4 : decode cX8_hours 4 = .ok (.invokevirtual 184, 3) := by decide +kernel
theorem dX8_hours_7 : decode cX8_hours 7 = .ok (.istore_n 2, 1) := by decide +kernel
theorem dX8_hours_8 : decode cX8_hours 8 = .ok (.iload_n 2, 1) := by decide +kernel
theorem dX8_hours_9 : decode cX8_hours 9 = .ok (.ifCond .eq 9, 3) := by decide +kernel
theorem dX8_hours_12 : decode cX8_hours 12 = .ok (.aload_n 0, 1) := by decide +kernel
theorem dX8_hours_13 : decode cX8_hours 13 = .ok (.iload_n 2, 1) := by decide +kernel
theorem dX8_hours_14 : decode cX8_hours 14 = .ok (.invokevirtual 63, 3) := by decide +kernel
theorem dX8_hours_17 : decode cX8_hours 17 = .ok (.ireturn, 1) := by decide +kernel
theorem dX8_hours_18 : decode cX8_hours 18 = .ok (.iconst 0, 1) := by decide +kernel
theorem dX8_hours_19 : decode cX8_hours 19 = .ok (.istore_n 3, 1) := by decide +kernel
theorem dX8_hours_20 : decode cX8_hours 20 = .ok (.iload_n 3, 1) := by decide +kernel
theorem dX8_hours_21 : decode cX8_hours 21 = .ok (.iload_n 1, 1) := by decide +kernel
theorem dX8_hours_22 : decode cX8_hours 22 = .ok (.if_icmp .ge 13, 3) := by decide +kernel
theorem dX8_hours_25 : decode cX8_hours 25 = .ok (.aload_n 0, 1) := by decide +kernel
theorem dX8_hours_26 : decode cX8_hours 26 = .ok (.invokevirtual 187, 3) := by decide +kernel
theorem dX8_hours_29 : decode cX8_hours 29 = .ok (.iinc 3 1, 3) := by decide +kernel
theorem dX8_hours_32 : decode cX8_hours 32 = .ok (.goto (-12), 3) := by decide +kernel
theorem dX8_hours_35 : decode cX8_hours 35 = .ok (.aload_n 0, 1) := by decide +kernel
theorem dX8_hours_36 : decode cX8_hours 36 = .ok (.getfield 7, 3) := by decide +kernel
theorem dX8_hours_39 : decode cX8_hours 39 = .ok (.iconst 1, 1) := by decide +kernel
theorem dX8_hours_40 : decode cX8_hours 40 = .ok (.iaload, 1) := by decide +kernel
theorem dX8_hours_41 : decode cX8_hours 41 = .ok (.ireturn, 1) := by decide +kernel
theorem dX8_errand_0 : decode cX8_errand 0 = .ok (.aload_n 0, 1) := by decide +kernel
theorem dX8_errand_1 : decode cX8_errand 1 = .ok (.getfield 7, 3) := by decide +kernel
theorem dX8_errand_4 : decode cX8_errand 4 = .ok (.bipush 6, 2) := by decide +kernel
theorem dX8_errand_6 : decode cX8_errand 6 = .ok (.iaload, 1) := by decide +kernel
theorem dX8_errand_7 : decode cX8_errand 7 = .ok (.ifCond .eq 12, 3) := by decide +kernel
theorem dX8_errand_10 : decode cX8_errand 10 = .ok (.aload_n 0, 1) := by decide +kernel
theorem dX8_errand_11 : decode cX8_errand 11 = .ok (.getfield 7, 3) := by decide +kernel
theorem dX8_errand_14 : decode cX8_errand 14 = .ok (.iconst 5, 1) := by decide +kernel
theorem dX8_errand_15 : decode cX8_errand 15 = .ok (.iaload, 1) := by decide +kernel
theorem dX8_errand_16 : decode cX8_errand 16 = .ok (.ifCond .ne 5, 3) := by decide +kernel
theorem dX8_errand_19 : decode cX8_errand 19 = .ok (.iconst 0, 1) := by decide +kernel
theorem dX8_errand_20 : decode cX8_errand 20 = .ok (.ireturn, 1) := by decide +kernel
theorem dX8_errand_21 : decode cX8_errand 21 = .ok (.aload_n 0, 1) := by decide +kernel
theorem dX8_errand_22 : decode cX8_errand 22 = .ok (.invokevirtual 190, 3) := by decide +kernel
theorem dX8_errand_25 : decode cX8_errand 25 = .ok (.aload_n 0, 1) := by decide +kernel
theorem dX8_errand_26 : decode cX8_errand 26 = .ok (.getfield 7, 3) := by decide +kernel
theorem dX8_errand_29 : decode cX8_errand 29 = .ok (.bipush 6, 2) := by decide +kernel
theorem dX8_errand_31 : decode cX8_errand 31 = .ok (.iaload, 1) := by decide +kernel
theorem dX8_errand_32 : decode cX8_errand 32 = .ok (.irem, 1) := by decide +kernel
theorem dX8_errand_33 : decode cX8_errand 33 = .ok (.istore_n 1, 1) := by decide +kernel
theorem dX8_errand_34 : decode cX8_errand 34 = .ok (.aload_n 0, 1) := by decide +kernel
theorem dX8_errand_35 : decode cX8_errand 35 = .ok (.invokevirtual 190, 3) := by decide +kernel
theorem dX8_errand_38 : decode cX8_errand 38 = .ok (.iconst 1, 1) := by decide +kernel
theorem dX8_errand_39 : decode cX8_errand 39 = .ok (.aload_n 0, 1) := by decide +kernel
theorem dX8_errand_40 : decode cX8_errand 40 = .ok (.getfield 7, 3) := by decide +kernel
theorem dX8_errand_43 : decode cX8_errand 43 = .ok (.iconst 5, 1) := by decide +kernel
theorem dX8_errand_44 : decode cX8_errand 44 = .ok (.iaload, 1) := by decide +kernel
theorem dX8_errand_45 : decode cX8_errand 45 = .ok (.ishl, 1) := by decide +kernel
theorem dX8_errand_46 : decode cX8_errand 46 = .ok (.irem, 1) := by decide +kernel
theorem dX8_errand_47 : decode cX8_errand 47 = .ok (.istore_n 2, 1) := by decide +kernel
theorem dX8_errand_48 : decode cX8_errand 48 = .ok (.aload_n 0, 1) := by decide +kernel
theorem dX8_errand_49 : decode cX8_errand 49 = .ok (.invokevirtual 190, 3) := by decide +kernel
theorem dX8_errand_52 : decode cX8_errand 52 = .ok (.iconst 3, 1) := by decide +kernel
theorem dX8_errand_53 : decode cX8_errand 53 = .ok (.irem, 1) := by decide +kernel
theorem dX8_errand_54 : decode cX8_errand 54 = .ok (.istore_n 3, 1) := by decide +kernel
theorem dX8_errand_55 : decode cX8_errand 55 = .ok (.iload_n 2, 1) := by decide +kernel
theorem dX8_errand_56 : decode cX8_errand 56 = .ok (.ifCond .le 23, 3) := by decide +kernel
theorem dX8_errand_59 : decode cX8_errand 59 = .ok (.aload_n 0, 1) := by decide +kernel
theorem dX8_errand_60 : decode cX8_errand 60 = .ok (.iload_n 1, 1) := by decide +kernel
theorem dX8_errand_61 : decode cX8_errand 61 = .ok (.iload_n 2, 1) := by decide +kernel
theorem dX8_errand_62 : decode cX8_errand 62 = .ok (.iload_n 3, 1) := by decide +kernel
theorem dX8_errand_63 : decode cX8_errand 63 = .ok (.invokevirtual 178, 3) := by decide +kernel
theorem dX8_errand_66 : decode cX8_errand 66 = .ok (.ifCond .eq 13, 3) := by decide +kernel
theorem dX8_errand_69 : decode cX8_errand 69 = .ok (.aload_n 0, 1) := by decide +kernel
theorem dX8_errand_70 : decode cX8_errand 70 = .ok (.iload_n 1, 1) := by decide +kernel
theorem dX8_errand_71 : decode cX8_errand 71 = .ok (.iload_n 2, 1) := by decide +kernel
theorem dX8_errand_72 : decode cX8_errand 72 = .ok (.iload_n 3, 1) := by decide +kernel
theorem dX8_errand_73 : decode cX8_errand 73 = .ok (.invokevirtual 181, 3) := by decide +kernel
theorem dX8_errand_76 : decode cX8_errand 76 = .ok (.goto 4, 3) := by decide +kernel
theorem dX8_errand_79 : decode cX8_errand 79 = .ok (.iconst 0, 1) := by decide +kernel
theorem dX8_errand_80 : decode cX8_errand 80 = .ok (.ireturn, 1) := by decide +kernel
theorem dX8_loose_0 : decode cX8_loose 0 = .ok (.aload_n 0, 1) := by decide +kernel
theorem dX8_loose_1 : decode cX8_loose 1 = .ok (.iload_n 1, 1) := by decide +kernel
theorem dX8_loose_2 : decode cX8_loose 2 = .ok (.bipush 24, 2) := by decide +kernel
theorem dX8_loose_4 : decode cX8_loose 4 = .ok (.invokevirtual 184, 3) := by decide +kernel
theorem dX8_loose_7 : decode cX8_loose 7 = .ok (.istore_n 2, 1) := by decide +kernel
theorem dX8_loose_8 : decode cX8_loose 8 = .ok (.iload_n 2, 1) := by decide +kernel
theorem dX8_loose_9 : decode cX8_loose 9 = .ok (.ifCond .eq 9, 3) := by decide +kernel
theorem dX8_loose_12 : decode cX8_loose 12 = .ok (.aload_n 0, 1) := by decide +kernel
theorem dX8_loose_13 : decode cX8_loose 13 = .ok (.iload_n 2, 1) := by decide +kernel
theorem dX8_loose_14 : decode cX8_loose 14 = .ok (.invokevirtual 63, 3) := by decide +kernel
theorem dX8_loose_17 : decode cX8_loose 17 = .ok (.ireturn, 1) := by decide +kernel
theorem dX8_loose_18 : decode cX8_loose 18 = .ok (.iconst 0, 1) := by decide +kernel
theorem dX8_loose_19 : decode cX8_loose 19 = .ok (.istore_n 3, 1) := by decide +kernel
theorem dX8_loose_20 : decode cX8_loose 20 = .ok (.iconst 0, 1) := by decide +kernel
theorem dX8_loose_21 : decode cX8_loose 21 = .ok (.istore 4, 2) := by decide +kernel
theorem dX8_loose_23 : decode cX8_loose 23 = .ok (.iload 4, 2) := by decide +kernel
theorem dX8_loose_25 : decode cX8_loose 25 = .ok (.iload_n 1, 1) := by decide +kernel
theorem dX8_loose_26 : decode cX8_loose 26 = .ok (.if_icmp .ge 20, 3) := by decide +kernel
theorem dX8_loose_29 : decode cX8_loose 29 = .ok (.iload_n 3, 1) := by decide +kernel
theorem dX8_loose_30 : decode cX8_loose 30 = .ok (.aload_n 0, 1) := by decide +kernel
theorem dX8_loose_31 : decode cX8_loose 31 = .ok (.invokevirtual 193, 3) := by decide +kernel
theorem dX8_loose_34 : decode cX8_loose 34 = .ok (.iadd, 1) := by decide +kernel
theorem dX8_loose_35 : decode cX8_loose 35 = .ok (.istore_n 3, 1) := by decide +kernel
theorem dX8_loose_36 : decode cX8_loose 36 = .ok (.aload_n 0, 1) := by decide +kernel
theorem dX8_loose_37 : decode cX8_loose 37 = .ok (.invokevirtual 187, 3) := by decide +kernel
theorem dX8_loose_40 : decode cX8_loose 40 = .ok (.iinc 4 1, 3) := by decide +kernel
theorem dX8_loose_43 : decode cX8_loose 43 = .ok (.goto (-20), 3) := by decide +kernel
theorem dX8_loose_46 : decode cX8_loose 46 = .ok (.iload_n 3, 1) := by decide +kernel
theorem dX8_loose_47 : decode cX8_loose 47 = .ok (.ireturn, 1) := by decide +kernel
theorem dX8_hour_0 : decode cX8_hour 0 = .ok (.iload_n 1, 1) := by decide +kernel
theorem dX8_hour_1 : decode cX8_hour 1 = .ok (.iconst 0, 1) := by decide +kernel
theorem dX8_hour_2 : decode cX8_hour 2 = .ok (.sipush 9999, 3) := by decide +kernel
theorem dX8_hour_5 : decode cX8_hour 5 = .ok (.invokestatic 59, 3) := by decide +kernel
theorem dX8_hour_8 : decode cX8_hour 8 = .ok (.ifCond .eq 12, 3) := by decide +kernel
theorem dX8_hour_11 : decode cX8_hour 11 = .ok (.aload_n 0, 1) := by decide +kernel
theorem dX8_hour_12 : decode cX8_hour 12 = .ok (.iconst 0, 1) := by decide +kernel
theorem dX8_hour_13 : decode cX8_hour 13 = .ok (.iload_n 1, 1) := by decide +kernel
theorem dX8_hour_14 : decode cX8_hour 14 = .ok (.invokevirtual 169, 3) := by decide +kernel
theorem dX8_hour_17 : decode cX8_hour 17 = .ok (.goto 8, 3) := by decide +kernel
theorem dX8_hour_20 : decode cX8_hour 20 = .ok (.aload_n 0, 1) := by decide +kernel
theorem dX8_hour_21 : decode cX8_hour 21 = .ok (.iconst 1, 1) := by decide +kernel
theorem dX8_hour_22 : decode cX8_hour 22 = .ok (.invokevirtual 63, 3) := by decide +kernel
theorem dX8_hour_25 : decode cX8_hour 25 = .ok (.ireturn, 1) := by decide +kernel
theorem dX8_seed_0 : decode cX8_seed 0 = .ok (.aload_n 0, 1) := by decide +kernel
theorem dX8_seed_1 : decode cX8_seed 1 = .ok (.iconst 2, 1) := by decide +kernel
theorem dX8_seed_2 : decode cX8_seed 2 = .ok (.iload_n 1, 1) := by decide +kernel
theorem dX8_seed_3 : decode cX8_seed 3 = .ok (.invokevirtual 169, 3) := by decide +kernel
theorem dX8_seed_6 : decode cX8_seed 6 = .ok (.ireturn, 1) := by decide +kernel
theorem dX8_then_0 : decode cX8_then 0 = .ok (.aload_n 0, 1) := by decide +kernel
theorem dX8_then_1 : decode cX8_then 1 = .ok (.iload_n 1, 1) := by decide +kernel
theorem dX8_then_2 : decode cX8_then 2 = .ok (.invokevirtual 166, 3) := by decide +kernel
theorem dX8_then_5 : decode cX8_then 5 = .ok (.ifCond .eq 13, 3) := by decide +kernel
theorem dX8_then_8 : decode cX8_then 8 = .ok (.iload_n 2, 1) := by decide +kernel
theorem dX8_then_9 : decode cX8_then 9 = .ok (.iconst 0, 1) := by decide +kernel
theorem dX8_then_10 : decode cX8_then 10 = .ok (.bipush 72, 2) := by decide +kernel
theorem dX8_then_12 : decode cX8_then 12 = .ok (.invokestatic 59, 3) := by decide +kernel
theorem dX8_then_15 : decode cX8_then 15 = .ok (.ifCond .ne 9, 3) := by decide +kernel
theorem dX8_then_18 : decode cX8_then 18 = .ok (.aload_n 0, 1) := by decide +kernel
theorem dX8_then_19 : decode cX8_then 19 = .ok (.iconst 1, 1) := by decide +kernel
theorem dX8_then_20 : decode cX8_then 20 = .ok (.invokevirtual 63, 3) := by decide +kernel
theorem dX8_then_23 : decode cX8_then 23 = .ok (.ireturn, 1) := by decide +kernel
theorem dX8_then_24 : decode cX8_then 24 = .ok (.aload_n 0, 1) := by decide +kernel
theorem dX8_then_25 : decode cX8_then 25 = .ok (.invokevirtual 196, 3) := by decide +kernel
theorem dX8_then_28 : decode cX8_then 28 = .ok (.iconst 0, 1) := by decide +kernel
theorem dX8_then_29 : decode cX8_then 29 = .ok (.istore_n 3, 1) := by decide +kernel
theorem dX8_then_30 : decode cX8_then 30 = .ok (.iload_n 3, 1) := by decide +kernel
theorem dX8_then_31 : decode cX8_then 31 = .ok (.iload_n 2, 1) := by decide +kernel
theorem dX8_then_32 : decode cX8_then 32 = .ok (.if_icmp .ge 13, 3) := by decide +kernel
theorem dX8_then_35 : decode cX8_then 35 = .ok (.aload_n 0, 1) := by decide +kernel
theorem dX8_then_36 : decode cX8_then 36 = .ok (.invokevirtual 187, 3) := by decide +kernel
theorem dX8_then_39 : decode cX8_then 39 = .ok (.iinc 3 1, 3) := by decide +kernel
theorem dX8_then_42 : decode cX8_then 42 = .ok (.goto (-12), 3) := by decide +kernel
theorem dX8_then_45 : decode cX8_then 45 = .ok (.aload_n 0, 1) := by decide +kernel
theorem dX8_then_46 : decode cX8_then 46 = .ok (.iload_n 1, 1) := by decide +kernel
theorem dX8_then_47 : decode cX8_then 47 = .ok (.iconst 4, 1) := by decide +kernel
theorem dX8_then_48 : decode cX8_then 48 = .ok (.invokevirtual 123, 3) := by decide +kernel
theorem dX8_then_51 : decode cX8_then 51 = .ok (.istore_n 3, 1) := by decide +kernel
theorem dX8_then_52 : decode cX8_then 52 = .ok (.aload_n 0, 1) := by decide +kernel
theorem dX8_then_53 : decode cX8_then 53 = .ok (.invokevirtual 199, 3) := by decide +kernel
theorem dX8_then_56 : decode cX8_then 56 = .ok (.iload_n 3, 1) := by decide +kernel
theorem dX8_then_57 : decode cX8_then 57 = .ok (.ireturn, 1) := by decide +kernel
theorem dX8_drier_0 : decode cX8_drier 0 = .ok (.iconst (-1), 1) := by decide +kernel
theorem dX8_drier_1 : decode cX8_drier 1 = .ok (.istore_n 2, 1) := by decide +kernel
theorem dX8_drier_2 : decode cX8_drier 2 = .ok (.aload_n 0, 1) := by decide +kernel
theorem dX8_drier_3 : decode cX8_drier 3 = .ok (.getfield 7, 3) := by decide +kernel
theorem dX8_drier_6 : decode cX8_drier 6 = .ok (.iconst 5, 1) := by decide +kernel
theorem dX8_drier_7 : decode cX8_drier 7 = .ok (.iaload, 1) := by decide +kernel
theorem dX8_drier_8 : decode cX8_drier 8 = .ok (.iconst 1, 1) := by decide +kernel
theorem dX8_drier_9 : decode cX8_drier 9 = .ok (.isub, 1) := by decide +kernel
theorem dX8_drier_10 : decode cX8_drier 10 = .ok (.istore_n 3, 1) := by decide +kernel
theorem dX8_drier_11 : decode cX8_drier 11 = .ok (.iload_n 3, 1) := by decide +kernel
theorem dX8_drier_12 : decode cX8_drier 12 = .ok (.ifCond .lt 25, 3) := by decide +kernel
theorem dX8_drier_15 : decode cX8_drier 15 = .ok (.aload_n 0, 1) := by decide +kernel
theorem dX8_drier_16 : decode cX8_drier 16 = .ok (.iload_n 3, 1) := by decide +kernel
theorem dX8_drier_17 : decode cX8_drier 17 = .ok (.iconst 4, 1) := by decide +kernel
theorem dX8_drier_18 : decode cX8_drier 18 = .ok (.invokevirtual 123, 3) := by decide +kernel
theorem dX8_drier_21 : decode cX8_drier 21 = .ok (.iload_n 1, 1) := by decide +kernel
theorem dX8_drier_22 : decode cX8_drier 22 = .ok (.if_icmp .le 7, 3) := by decide +kernel
theorem dX8_drier_25 : decode cX8_drier 25 = .ok (.iload_n 3, 1) := by decide +kernel
theorem dX8_drier_26 : decode cX8_drier 26 = .ok (.goto 4, 3) := by decide +kernel
theorem dX8_drier_29 : decode cX8_drier 29 = .ok (.iload_n 2, 1) := by decide +kernel
theorem dX8_drier_30 : decode cX8_drier 30 = .ok (.istore_n 2, 1) := by decide +kernel
theorem dX8_drier_31 : decode cX8_drier 31 = .ok (.iinc 3 (-1), 3) := by decide +kernel
theorem dX8_drier_34 : decode cX8_drier 34 = .ok (.goto (-23), 3) := by decide +kernel
theorem dX8_drier_37 : decode cX8_drier 37 = .ok (.iload_n 2, 1) := by decide +kernel
theorem dX8_drier_38 : decode cX8_drier 38 = .ok (.ireturn, 1) := by decide +kernel
theorem dX8_first_0 : decode cX8_first 0 = .ok (.iload_n 1, 1) := by decide +kernel
theorem dX8_first_1 : decode cX8_first 1 = .ok (.iconst 0, 1) := by decide +kernel
theorem dX8_first_2 : decode cX8_first 2 = .ok (.bipush 99, 2) := by decide +kernel
theorem dX8_first_4 : decode cX8_first 4 = .ok (.invokestatic 59, 3) := by decide +kernel
theorem dX8_first_7 : decode cX8_first 7 = .ok (.ifCond .eq 12, 3) := by decide +kernel
theorem dX8_first_10 : decode cX8_first 10 = .ok (.iload_n 2, 1) := by decide +kernel
theorem dX8_first_11 : decode cX8_first 11 = .ok (.iconst 0, 1) := by decide +kernel
theorem dX8_first_12 : decode cX8_first 12 = .ok (.iconst 1, 1) := by decide +kernel
theorem dX8_first_13 : decode cX8_first 13 = .ok (.invokestatic 59, 3) := by decide +kernel
theorem dX8_first_16 : decode cX8_first 16 = .ok (.ifCond .ne 9, 3) := by decide +kernel
theorem dX8_first_19 : decode cX8_first 19 = .ok (.aload_n 0, 1) := by decide +kernel
theorem dX8_first_20 : decode cX8_first 20 = .ok (.iconst 1, 1) := by decide +kernel
theorem dX8_first_21 : decode cX8_first 21 = .ok (.invokevirtual 63, 3) := by decide +kernel
theorem dX8_first_24 : decode cX8_first 24 = .ok (.ireturn, 1) := by decide +kernel
theorem dX8_first_25 : decode cX8_first 25 = .ok (.aload_n 0, 1) := by decide +kernel
theorem dX8_first_26 : decode cX8_first 26 = .ok (.invokevirtual 196, 3) := by decide +kernel
theorem dX8_first_29 : decode cX8_first 29 = .ok (.iconst 0, 1) := by decide +kernel
theorem dX8_first_30 : decode cX8_first 30 = .ok (.istore_n 3, 1) := by decide +kernel
theorem dX8_first_31 : decode cX8_first 31 = .ok (.iload_n 3, 1) := by decide +kernel
theorem dX8_first_32 : decode cX8_first 32 = .ok (.bipush 72, 2) := by decide +kernel
theorem dX8_first_34 : decode cX8_first 34 = .ok (.if_icmp .gt 22, 3) := by decide +kernel
theorem dX8_first_37 : decode cX8_first 37 = .ok (.aload_n 0, 1) := by decide +kernel
theorem dX8_first_38 : decode cX8_first 38 = .ok (.iload_n 1, 1) := by decide +kernel
theorem dX8_first_39 : decode cX8_first 39 = .ok (.invokevirtual 202, 3) := by decide +kernel
theorem dX8_first_42 : decode cX8_first 42 = .ok (.iconst (-1), 1) := by decide +kernel
theorem dX8_first_43 : decode cX8_first 43 = .ok (.if_icmp .ne 13, 3) := by decide +kernel
theorem dX8_first_46 : decode cX8_first 46 = .ok (.aload_n 0, 1) := by decide +kernel
theorem dX8_first_47 : decode cX8_first 47 = .ok (.invokevirtual 187, 3) := by decide +kernel
theorem dX8_first_50 : decode cX8_first 50 = .ok (.iinc 3 1, 3) := by decide +kernel
theorem dX8_first_53 : decode cX8_first 53 = .ok (.goto (-22), 3) := by decide +kernel
theorem dX8_first_56 : decode cX8_first 56 = .ok (.aload_n 0, 1) := by decide +kernel
theorem dX8_first_57 : decode cX8_first 57 = .ok (.iload_n 1, 1) := by decide +kernel
theorem dX8_first_58 : decode cX8_first 58 = .ok (.invokevirtual 202, 3) := by decide +kernel
theorem dX8_first_61 : decode cX8_first 61 = .ok (.istore 4, 2) := by decide +kernel
theorem dX8_first_63 : decode cX8_first 63 = .ok (.aload_n 0, 1) := by decide +kernel
theorem dX8_first_64 : decode cX8_first 64 = .ok (.invokevirtual 199, 3) := by decide +kernel
theorem dX8_first_67 : decode cX8_first 67 = .ok (.iload_n 3, 1) := by decide +kernel
theorem dX8_first_68 : decode cX8_first 68 = .ok (.bipush 72, 2) := by decide +kernel
theorem dX8_first_70 : decode cX8_first 70 = .ok (.if_icmp .le 11, 3) := by decide +kernel
theorem dX8_first_73 : decode cX8_first 73 = .ok (.aload_n 0, 1) := by decide +kernel
theorem dX8_first_74 : decode cX8_first 74 = .ok (.iconst 2, 1) := by decide +kernel
theorem dX8_first_75 : decode cX8_first 75 = .ok (.invokevirtual 63, 3) := by decide +kernel
theorem dX8_first_78 : decode cX8_first 78 = .ok (.goto 13, 3) := by decide +kernel
theorem dX8_first_81 : decode cX8_first 81 = .ok (.iload_n 2, 1) := by decide +kernel
theorem dX8_first_82 : decode cX8_first 82 = .ok (.ifCond .ne 8, 3) := by decide +kernel
theorem dX8_first_85 : decode cX8_first 85 = .ok (.iload 4, 2) := by decide +kernel
theorem dX8_first_87 : decode cX8_first 87 = .ok (.goto 4, 3) := by decide +kernel
theorem dX8_first_90 : decode cX8_first 90 = .ok (.iload_n 3, 1) := by decide +kernel
theorem dX8_first_91 : decode cX8_first 91 = .ok (.ireturn, 1) := by decide +kernel
theorem dX8_round_0 : decode cX8_round 0 = .ok (.aload_n 0, 1) := by decide +kernel
theorem dX8_round_1 : decode cX8_round 1 = .ok (.iload_n 1, 1) := by decide +kernel
theorem dX8_round_2 : decode cX8_round 2 = .ok (.invokevirtual 175, 3) := by decide +kernel
theorem dX8_round_5 : decode cX8_round 5 = .ok (.ifCond .eq 12, 3) := by decide +kernel
theorem dX8_round_8 : decode cX8_round 8 = .ok (.iload_n 2, 1) := by decide +kernel
theorem dX8_round_9 : decode cX8_round 9 = .ok (.iconst 0, 1) := by decide +kernel
theorem dX8_round_10 : decode cX8_round 10 = .ok (.iconst 1, 1) := by decide +kernel
theorem dX8_round_11 : decode cX8_round 11 = .ok (.invokestatic 59, 3) := by decide +kernel
theorem dX8_round_14 : decode cX8_round 14 = .ok (.ifCond .ne 9, 3) := by decide +kernel
theorem dX8_round_17 : decode cX8_round 17 = .ok (.aload_n 0, 1) := by decide +kernel
theorem dX8_round_18 : decode cX8_round 18 = .ok (.iconst 1, 1) := by decide +kernel
theorem dX8_round_19 : decode cX8_round 19 = .ok (.invokevirtual 63, 3) := by decide +kernel
theorem dX8_round_22 : decode cX8_round 22 = .ok (.ireturn, 1) := by decide +kernel
theorem dX8_round_23 : decode cX8_round 23 = .ok (.iconst 0, 1) := by decide +kernel
theorem dX8_round_24 : decode cX8_round 24 = .ok (.istore_n 3, 1) := by decide +kernel
theorem dX8_round_25 : decode cX8_round 25 = .ok (.iload_n 3, 1) := by decide +kernel
theorem dX8_round_26 : decode cX8_round 26 = .ok (.aload_n 0, 1) := by decide +kernel
theorem dX8_round_27 : decode cX8_round 27 = .ok (.getfield 7, 3) := by decide +kernel
theorem dX8_round_30 : decode cX8_round 30 = .ok (.iconst 5, 1) := by decide +kernel
theorem dX8_round_31 : decode cX8_round 31 = .ok (.iaload, 1) := by decide +kernel
theorem dX8_round_32 : decode cX8_round 32 = .ok (.if_icmp .ge 20, 3) := by decide +kernel
theorem dX8_round_35 : decode cX8_round 35 = .ok (.aload_n 0, 1) := by decide +kernel
theorem dX8_round_36 : decode cX8_round 36 = .ok (.getfield 31, 3) := by decide +kernel
theorem dX8_round_39 : decode cX8_round 39 = .ok (.iload_n 3, 1) := by decide +kernel
theorem dX8_round_40 : decode cX8_round 40 = .ok (.aload_n 0, 1) := by decide +kernel
theorem dX8_round_41 : decode cX8_round 41 = .ok (.iload_n 3, 1) := by decide +kernel
theorem dX8_round_42 : decode cX8_round 42 = .ok (.invokevirtual 160, 3) := by decide +kernel
theorem dX8_round_45 : decode cX8_round 45 = .ok (.iastore, 1) := by decide +kernel
theorem dX8_round_46 : decode cX8_round 46 = .ok (.iinc 3 1, 3) := by decide +kernel
theorem dX8_round_49 : decode cX8_round 49 = .ok (.goto (-24), 3) := by decide +kernel
theorem dX8_round_52 : decode cX8_round 52 = .ok (.iconst 0, 1) := by decide +kernel
theorem dX8_round_53 : decode cX8_round 53 = .ok (.istore_n 3, 1) := by decide +kernel
theorem dX8_round_54 : decode cX8_round 54 = .ok (.iconst 0, 1) := by decide +kernel
theorem dX8_round_55 : decode cX8_round 55 = .ok (.istore 4, 2) := by decide +kernel
theorem dX8_round_57 : decode cX8_round 57 = .ok (.iconst 1, 1) := by decide +kernel
theorem dX8_round_58 : decode cX8_round 58 = .ok (.istore 5, 2) := by decide +kernel
theorem dX8_round_60 : decode cX8_round 60 = .ok (.iload 5, 2) := by decide +kernel
theorem dX8_round_62 : decode cX8_round 62 = .ok (.iconst 1, 1) := by decide +kernel
theorem dX8_round_63 : decode cX8_round 63 = .ok (.aload_n 0, 1) := by decide +kernel
theorem dX8_round_64 : decode cX8_round 64 = .ok (.getfield 7, 3) := by decide +kernel
theorem dX8_round_67 : decode cX8_round 67 = .ok (.iconst 5, 1) := by decide +kernel
theorem dX8_round_68 : decode cX8_round 68 = .ok (.iaload, 1) := by decide +kernel
theorem dX8_round_69 : decode cX8_round 69 = .ok (.ishl, 1) := by decide +kernel
theorem dX8_round_70 : decode cX8_round 70 = .ok (.if_icmp .ge 87, 3) := by decide +kernel
theorem dX8_round_73 : decode cX8_round 73 = .ok (.iconst 0, 1) := by decide +kernel
theorem dX8_round_74 : decode cX8_round 74 = .ok (.istore 6, 2) := by decide +kernel
theorem dX8_round_76 : decode cX8_round 76 = .ok (.iconst 0, 1) := by decide +kernel
theorem dX8_round_77 : decode cX8_round 77 = .ok (.istore 7, 2) := by decide +kernel
theorem dX8_round_79 : decode cX8_round 79 = .ok (.iload 7, 2) := by decide +kernel
theorem dX8_round_81 : decode cX8_round 81 = .ok (.aload_n 0, 1) := by decide +kernel
theorem dX8_round_82 : decode cX8_round 82 = .ok (.getfield 7, 3) := by decide +kernel
theorem dX8_round_85 : decode cX8_round 85 = .ok (.iconst 5, 1) := by decide +kernel
theorem dX8_round_86 : decode cX8_round 86 = .ok (.iaload, 1) := by decide +kernel
theorem dX8_round_87 : decode cX8_round 87 = .ok (.if_icmp .ge 36, 3) := by decide +kernel
theorem dX8_round_90 : decode cX8_round 90 = .ok (.iload 6, 2) := by decide +kernel
theorem dX8_round_92 : decode cX8_round 92 = .ok (.iload 5, 2) := by decide +kernel
theorem dX8_round_94 : decode cX8_round 94 = .ok (.iload 7, 2) := by decide +kernel
theorem dX8_round_96 : decode cX8_round 96 = .ok (.ishr, 1) := by decide +kernel
theorem dX8_round_97 : decode cX8_round 97 = .ok (.iconst 1, 1) := by decide +kernel
theorem dX8_round_98 : decode cX8_round 98 = .ok (.iand, 1) := by decide +kernel
theorem dX8_round_99 : decode cX8_round 99 = .ok (.iconst 1, 1) := by decide +kernel
theorem dX8_round_100 : decode cX8_round 100 = .ok (.if_icmp .ne 13, 3) := by decide +kernel
theorem dX8_round_103 : decode cX8_round 103 = .ok (.aload_n 0, 1) := by decide +kernel
theorem dX8_round_104 : decode cX8_round 104 = .ok (.getfield 31, 3) := by decide +kernel
theorem dX8_round_107 : decode cX8_round 107 = .ok (.iload 7, 2) := by decide +kernel
theorem dX8_round_109 : decode cX8_round 109 = .ok (.iaload, 1) := by decide +kernel
theorem dX8_round_110 : decode cX8_round 110 = .ok (.goto 4, 3) := by decide +kernel
theorem dX8_round_113 : decode cX8_round 113 = .ok (.iconst 0, 1) := by decide +kernel
theorem dX8_round_114 : decode cX8_round 114 = .ok (.iadd, 1) := by decide +kernel
theorem dX8_round_115 : decode cX8_round 115 = .ok (.istore 6, 2) := by decide +kernel
theorem dX8_round_117 : decode cX8_round 117 = .ok (.iinc 7 1, 3) := by decide +kernel
theorem dX8_round_120 : decode cX8_round 120 = .ok (.goto (-41), 3) := by decide +kernel
theorem dX8_round_123 : decode cX8_round 123 = .ok (.iload 6, 2) := by decide +kernel
theorem dX8_round_125 : decode cX8_round 125 = .ok (.iload 4, 2) := by decide +kernel
theorem dX8_round_127 : decode cX8_round 127 = .ok (.if_icmp .le 24, 3) := by decide +kernel
theorem dX8_round_130 : decode cX8_round 130 = .ok (.aload_n 0, 1) := by decide +kernel
theorem dX8_round_131 : decode cX8_round 131 = .ok (.iload 5, 2) := by decide +kernel
theorem dX8_round_133 : decode cX8_round 133 = .ok (.invokevirtual 154, 3) := by decide +kernel
theorem dX8_round_136 : decode cX8_round 136 = .ok (.aload_n 0, 1) := by decide +kernel
theorem dX8_round_137 : decode cX8_round 137 = .ok (.iload_n 1, 1) := by decide +kernel
theorem dX8_round_138 : decode cX8_round 138 = .ok (.invokevirtual 157, 3) := by decide +kernel
theorem dX8_round_141 : decode cX8_round 141 = .ok (.if_icmp .gt 10, 3) := by decide +kernel
theorem dX8_round_144 : decode cX8_round 144 = .ok (.iload 5, 2) := by decide +kernel
theorem dX8_round_146 : decode cX8_round 146 = .ok (.istore_n 3, 1) := by decide +kernel
theorem dX8_round_147 : decode cX8_round 147 = .ok (.iload 6, 2) := by decide +kernel
theorem dX8_round_149 : decode cX8_round 149 = .ok (.istore 4, 2) := by decide +kernel
theorem dX8_round_151 : decode cX8_round 151 = .ok (.iinc 5 1, 3) := by decide +kernel
theorem dX8_round_154 : decode cX8_round 154 = .ok (.goto (-94), 3) := by decide +kernel
theorem dX8_round_157 : decode cX8_round 157 = .ok (.iload_n 2, 1) := by decide +kernel
theorem dX8_round_158 : decode cX8_round 158 = .ok (.ifCond .ne 7, 3) := by decide +kernel
theorem dX8_round_161 : decode cX8_round 161 = .ok (.iload_n 3, 1) := by decide +kernel
theorem dX8_round_162 : decode cX8_round 162 = .ok (.goto 5, 3) := by decide +kernel
theorem dX8_round_165 : decode cX8_round 165 = .ok (.iload 4, 2) := by decide +kernel
theorem dX8_round_167 : decode cX8_round 167 = .ok (.ireturn, 1) := by decide +kernel
theorem dX8_goes_0 : decode cX8_goes 0 = .ok (.aload_n 0, 1) := by decide +kernel
theorem dX8_goes_1 : decode cX8_goes 1 = .ok (.getfield 205, 3) := by decide +kernel
theorem dX8_goes_4 : decode cX8_goes 4 = .ok (.iconst (-1), 1) := by decide +kernel
theorem dX8_goes_5 : decode cX8_goes 5 = .ok (.if_icmp .eq 12, 3) := by decide +kernel
theorem dX8_goes_8 : decode cX8_goes 8 = .ok (.iload_n 3, 1) := by decide +kernel
theorem dX8_goes_9 : decode cX8_goes 9 = .ok (.aload_n 0, 1) := by decide +kernel
theorem dX8_goes_10 : decode cX8_goes 10 = .ok (.getfield 205, 3) := by decide +kernel
theorem dX8_goes_13 : decode cX8_goes 13 = .ok (.if_icmp .lt 4, 3) := by decide +kernel
theorem dX8_goes_16 : decode cX8_goes 16 = .ok (.return_, 1) := by decide +kernel
theorem dX8_goes_17 : decode cX8_goes 17 = .ok (.iload_n 1, 1) := by decide +kernel
theorem dX8_goes_18 : decode cX8_goes 18 = .ok (.aload_n 0, 1) := by decide +kernel
theorem dX8_goes_19 : decode cX8_goes 19 = .ok (.getfield 7, 3) := by decide +kernel
theorem dX8_goes_22 : decode cX8_goes 22 = .ok (.iconst 5, 1) := by decide +kernel
theorem dX8_goes_23 : decode cX8_goes 23 = .ok (.iaload, 1) := by decide +kernel
theorem dX8_goes_24 : decode cX8_goes 24 = .ok (.if_icmp .ne 38, 3) := by decide +kernel
theorem dX8_goes_27 : decode cX8_goes 27 = .ok (.aload_n 0, 1) := by decide +kernel
theorem dX8_goes_28 : decode cX8_goes 28 = .ok (.iload_n 3, 1) := by decide +kernel
theorem dX8_goes_29 : decode cX8_goes 29 = .ok (.putfield 205, 3) := by decide +kernel
theorem dX8_goes_32 : decode cX8_goes 32 = .ok (.iconst 0, 1) := by decide +kernel
theorem dX8_goes_33 : decode cX8_goes 33 = .ok (.istore 4, 2) := by decide +kernel
theorem dX8_goes_35 : decode cX8_goes 35 = .ok (.iload 4, 2) := by decide +kernel
theorem dX8_goes_37 : decode cX8_goes 37 = .ok (.iload_n 1, 1) := by decide +kernel
theorem dX8_goes_38 : decode cX8_goes 38 = .ok (.if_icmp .ge 23, 3) := by decide +kernel
theorem dX8_goes_41 : decode cX8_goes 41 = .ok (.aload_n 0, 1) := by decide +kernel
theorem dX8_goes_42 : decode cX8_goes 42 = .ok (.getfield 37, 3) := by decide +kernel
theorem dX8_goes_45 : decode cX8_goes 45 = .ok (.iload 4, 2) := by decide +kernel
theorem dX8_goes_47 : decode cX8_goes 47 = .ok (.aload_n 0, 1) := by decide +kernel
theorem dX8_goes_48 : decode cX8_goes 48 = .ok (.getfield 34, 3) := by decide +kernel
theorem dX8_goes_51 : decode cX8_goes 51 = .ok (.iload 4, 2) := by decide +kernel
theorem dX8_goes_53 : decode cX8_goes 53 = .ok (.iaload, 1) := by decide +kernel
theorem dX8_goes_54 : decode cX8_goes 54 = .ok (.iastore, 1) := by decide +kernel
theorem dX8_goes_55 : decode cX8_goes 55 = .ok (.iinc 4 1, 3) := by decide +kernel
theorem dX8_goes_58 : decode cX8_goes 58 = .ok (.goto (-23), 3) := by decide +kernel
theorem dX8_goes_61 : decode cX8_goes 61 = .ok (.return_, 1) := by decide +kernel
theorem dX8_goes_62 : decode cX8_goes 62 = .ok (.aload_n 0, 1) := by decide +kernel
theorem dX8_goes_63 : decode cX8_goes 63 = .ok (.iload_n 1, 1) := by decide +kernel
theorem dX8_goes_64 : decode cX8_goes 64 = .ok (.iconst 4, 1) := by decide +kernel
theorem dX8_goes_65 : decode cX8_goes 65 = .ok (.invokevirtual 123, 3) := by decide +kernel
theorem dX8_goes_68 : decode cX8_goes 68 = .ok (.istore 4, 2) := by decide +kernel
theorem dX8_goes_70 : decode cX8_goes 70 = .ok (.iload 4, 2) := by decide +kernel
theorem dX8_goes_72 : decode cX8_goes 72 = .ok (.iload_n 2, 1) := by decide +kernel
theorem dX8_goes_73 : decode cX8_goes 73 = .ok (.if_icmp .gt 20, 3) := by decide +kernel
theorem dX8_goes_76 : decode cX8_goes 76 = .ok (.aload_n 0, 1) := by decide +kernel
theorem dX8_goes_77 : decode cX8_goes 77 = .ok (.getfield 34, 3) := by decide +kernel
theorem dX8_goes_80 : decode cX8_goes 80 = .ok (.iload_n 1, 1) := by decide +kernel
theorem dX8_goes_81 : decode cX8_goes 81 = .ok (.iconst (-1), 1) := by decide +kernel
theorem dX8_goes_82 : decode cX8_goes 82 = .ok (.iastore, 1) := by decide +kernel
theorem dX8_goes_83 : decode cX8_goes 83 = .ok (.aload_n 0, 1) := by decide +kernel
theorem dX8_goes_84 : decode cX8_goes 84 = .ok (.iload_n 1, 1) := by decide +kernel
theorem dX8_goes_85 : decode cX8_goes 85 = .ok (.iconst 1, 1) := by decide +kernel
theorem dX8_goes_86 : decode cX8_goes 86 = .ok (.iadd, 1) := by decide +kernel
theorem dX8_goes_87 : decode cX8_goes 87 = .ok (.iload_n 2, 1) := by decide +kernel
theorem dX8_goes_88 : decode cX8_goes 88 = .ok (.iload_n 3, 1) := by decide +kernel
theorem dX8_goes_89 : decode cX8_goes 89 = .ok (.invokevirtual 208, 3) := by decide +kernel
theorem dX8_goes_92 : decode cX8_goes 92 = .ok (.return_, 1) := by decide +kernel
theorem dX8_goes_93 : decode cX8_goes 93 = .ok (.iconst 0, 1) := by decide +kernel
theorem dX8_goes_94 : decode cX8_goes 94 = .ok (.istore 5, 2) := by decide +kernel
theorem dX8_goes_96 : decode cX8_goes 96 = .ok (.iload 5, 2) := by decide +kernel
theorem dX8_goes_98 : decode cX8_goes 98 = .ok (.aload_n 0, 1) := by decide +kernel
theorem dX8_goes_99 : decode cX8_goes 99 = .ok (.getfield 7, 3) := by decide +kernel
theorem dX8_goes_102 : decode cX8_goes 102 = .ok (.bipush 6, 2) := by decide +kernel
theorem dX8_goes_104 : decode cX8_goes 104 = .ok (.iaload, 1) := by decide +kernel
theorem dX8_goes_105 : decode cX8_goes 105 = .ok (.if_icmp .ge 89, 3) := by decide +kernel
theorem dX8_goes_108 : decode cX8_goes 108 = .ok (.aload_n 0, 1) := by decide +kernel
theorem dX8_goes_109 : decode cX8_goes 109 = .ok (.getfield 40, 3) := by decide +kernel
theorem dX8_goes_112 : decode cX8_goes 112 = .ok (.iload 5, 2) := by decide +kernel
theorem dX8_goes_114 : decode cX8_goes 114 = .ok (.iaload, 1) := by decide +kernel
theorem dX8_goes_115 : decode cX8_goes 115 = .ok (.iload 4, 2) := by decide +kernel
theorem dX8_goes_117 : decode cX8_goes 117 = .ok (.iadd, 1) := by decide +kernel
theorem dX8_goes_118 : decode cX8_goes 118 = .ok (.aload_n 0, 1) := by decide +kernel
theorem dX8_goes_119 : decode cX8_goes 119 = .ok (.iload 5, 2) := by decide +kernel
theorem dX8_goes_121 : decode cX8_goes 121 = .ok (.invokevirtual 157, 3) := by decide +kernel
theorem dX8_goes_124 : decode cX8_goes 124 = .ok (.if_icmp .gt 64, 3) := by decide +kernel
theorem dX8_goes_127 : decode cX8_goes 127 = .ok (.aload_n 0, 1) := by decide +kernel
theorem dX8_goes_128 : decode cX8_goes 128 = .ok (.getfield 40, 3) := by decide +kernel
theorem dX8_goes_131 : decode cX8_goes 131 = .ok (.iload 5, 2) := by decide +kernel
theorem dX8_goes_133 : decode cX8_goes 133 = .ok (.iaload, 1) := by decide +kernel
theorem dX8_goes_134 : decode cX8_goes 134 = .ok (.ifCond .ne 7, 3) := by decide +kernel
theorem dX8_goes_137 : decode cX8_goes 137 = .ok (.iconst 1, 1) := by decide +kernel
theorem dX8_goes_138 : decode cX8_goes 138 = .ok (.goto 4, 3) := by decide +kernel
theorem dX8_goes_141 : decode cX8_goes 141 = .ok (.iconst 0, 1) := by decide +kernel
theorem dX8_goes_142 : decode cX8_goes 142 = .ok (.istore 6, 2) := by decide +kernel
theorem dX8_goes_144 : decode cX8_goes 144 = .ok (.aload_n 0, 1) := by decide +kernel
theorem dX8_goes_145 : decode cX8_goes 145 = .ok (.getfield 34, 3) := by decide +kernel
theorem dX8_goes_148 : decode cX8_goes 148 = .ok (.iload_n 1, 1) := by decide +kernel
theorem dX8_goes_149 : decode cX8_goes 149 = .ok (.iload 5, 2) := by decide +kernel
theorem dX8_goes_151 : decode cX8_goes 151 = .ok (.iastore, 1) := by decide +kernel
theorem dX8_goes_152 : decode cX8_goes 152 = .ok (.aload_n 0, 1) := by decide +kernel
theorem dX8_goes_153 : decode cX8_goes 153 = .ok (.getfield 40, 3) := by decide +kernel
theorem dX8_goes_156 : decode cX8_goes 156 = .ok (.iload 5, 2) := by decide +kernel
theorem dX8_goes_158 : decode cX8_goes 158 = .ok (.dup2, 1) := by decide +kernel
theorem dX8_goes_159 : decode cX8_goes 159 = .ok (.iaload, 1) := by decide +kernel
theorem dX8_goes_160 : decode cX8_goes 160 = .ok (.iload 4, 2) := by decide +kernel
theorem dX8_goes_162 : decode cX8_goes 162 = .ok (.iadd, 1) := by decide +kernel
theorem dX8_goes_163 : decode cX8_goes 163 = .ok (.iastore, 1) := by decide +kernel
theorem dX8_goes_164 : decode cX8_goes 164 = .ok (.aload_n 0, 1) := by decide +kernel
theorem dX8_goes_165 : decode cX8_goes 165 = .ok (.iload_n 1, 1) := by decide +kernel
theorem dX8_goes_166 : decode cX8_goes 166 = .ok (.iconst 1, 1) := by decide +kernel
theorem dX8_goes_167 : decode cX8_goes 167 = .ok (.iadd, 1) := by decide +kernel
theorem dX8_goes_168 : decode cX8_goes 168 = .ok (.iload_n 2, 1) := by decide +kernel
theorem dX8_goes_169 : decode cX8_goes 169 = .ok (.iload_n 3, 1) := by decide +kernel
theorem dX8_goes_170 : decode cX8_goes 170 = .ok (.iload 6, 2) := by decide +kernel
theorem dX8_goes_172 : decode cX8_goes 172 = .ok (.iadd, 1) := by decide +kernel
theorem dX8_goes_173 : decode cX8_goes 173 = .ok (.invokevirtual 208, 3) := by decide +kernel
theorem dX8_goes_176 : decode cX8_goes 176 = .ok (.aload_n 0, 1) := by decide +kernel
theorem dX8_goes_177 : decode cX8_goes 177 = .ok (.getfield 40, 3) := by decide +kernel
theorem dX8_goes_180 : decode cX8_goes 180 = .ok (.iload 5, 2) := by decide +kernel
theorem dX8_goes_182 : decode cX8_goes 182 = .ok (.dup2, 1) := by decide +kernel
theorem dX8_goes_183 : decode cX8_goes 183 = .ok (.iaload, 1) := by decide +kernel
theorem dX8_goes_184 : decode cX8_goes 184 = .ok (.iload 4, 2) := by decide +kernel
theorem dX8_goes_186 : decode cX8_goes 186 = .ok (.isub, 1) := by decide +kernel
theorem dX8_goes_187 : decode cX8_goes 187 = .ok (.iastore, 1) := by decide +kernel
theorem dX8_goes_188 : decode cX8_goes 188 = .ok (.iinc 5 1, 3) := by decide +kernel
theorem dX8_goes_191 : decode cX8_goes 191 = .ok (.goto (-95), 3) := by decide +kernel
theorem dX8_goes_194 : decode cX8_goes 194 = .ok (.return_, 1) := by decide +kernel
theorem dX8_fewest_0 : decode cX8_fewest 0 = .ok (.iload_n 1, 1) := by decide +kernel
theorem dX8_fewest_1 : decode cX8_fewest 1 = .ok (.iconst 0, 1) := by decide +kernel
theorem dX8_fewest_2 : decode cX8_fewest 2 = .ok (.bipush 99, 2) := by decide +kernel
theorem dX8_fewest_4 : decode cX8_fewest 4 = .ok (.invokestatic 59, 3) := by decide +kernel
theorem dX8_fewest_7 : decode cX8_fewest 7 = .ok (.ifCond .eq 13, 3) := by decide +kernel
theorem dX8_fewest_10 : decode cX8_fewest 10 = .ok (.iload_n 2, 1) := by decide +kernel
theorem dX8_fewest_11 : decode cX8_fewest 11 = .ok (.iconst (-1), 1) := by decide +kernel
theorem dX8_fewest_12 : decode cX8_fewest 12 = .ok (.bipush 6, 2) := by decide +kernel
theorem dX8_fewest_14 : decode cX8_fewest 14 = .ok (.invokestatic 59, 3) := by decide +kernel
theorem dX8_fewest_17 : decode cX8_fewest 17 = .ok (.ifCond .ne 9, 3) := by decide +kernel
theorem dX8_fewest_20 : decode cX8_fewest 20 = .ok (.aload_n 0, 1) := by decide +kernel
theorem dX8_fewest_21 : decode cX8_fewest 21 = .ok (.iconst 1, 1) := by decide +kernel
theorem dX8_fewest_22 : decode cX8_fewest 22 = .ok (.invokevirtual 63, 3) := by decide +kernel
theorem dX8_fewest_25 : decode cX8_fewest 25 = .ok (.ireturn, 1) := by decide +kernel
theorem dX8_fewest_26 : decode cX8_fewest 26 = .ok (.iconst 0, 1) := by decide +kernel
theorem dX8_fewest_27 : decode cX8_fewest 27 = .ok (.istore_n 3, 1) := by decide +kernel
theorem dX8_fewest_28 : decode cX8_fewest 28 = .ok (.iload_n 3, 1) := by decide +kernel
theorem dX8_fewest_29 : decode cX8_fewest 29 = .ok (.iconst 4, 1) := by decide +kernel
theorem dX8_fewest_30 : decode cX8_fewest 30 = .ok (.if_icmp .ge 16, 3) := by decide +kernel
theorem dX8_fewest_33 : decode cX8_fewest 33 = .ok (.aload_n 0, 1) := by decide +kernel
theorem dX8_fewest_34 : decode cX8_fewest 34 = .ok (.getfield 40, 3) := by decide +kernel
theorem dX8_fewest_37 : decode cX8_fewest 37 = .ok (.iload_n 3, 1) := by decide +kernel
theorem dX8_fewest_38 : decode cX8_fewest 38 = .ok (.iconst 0, 1) := by decide +kernel
theorem dX8_fewest_39 : decode cX8_fewest 39 = .ok (.iastore, 1) := by decide +kernel
theorem dX8_fewest_40 : decode cX8_fewest 40 = .ok (.iinc 3 1, 3) := by decide +kernel
theorem dX8_fewest_43 : decode cX8_fewest 43 = .ok (.goto (-15), 3) := by decide +kernel
theorem dX8_fewest_46 : decode cX8_fewest 46 = .ok (.aload_n 0, 1) := by decide +kernel
theorem dX8_fewest_47 : decode cX8_fewest 47 = .ok (.iconst (-1), 1) := by decide +kernel
theorem dX8_fewest_48 : decode cX8_fewest 48 = .ok (.putfield 205, 3) := by decide +kernel
theorem dX8_fewest_51 : decode cX8_fewest 51 = .ok (.aload_n 0, 1) := by decide +kernel
theorem dX8_fewest_52 : decode cX8_fewest 52 = .ok (.iconst 0, 1) := by decide +kernel
theorem dX8_fewest_53 : decode cX8_fewest 53 = .ok (.iload_n 1, 1) := by decide +kernel
theorem dX8_fewest_54 : decode cX8_fewest 54 = .ok (.iconst 0, 1) := by decide +kernel
theorem dX8_fewest_55 : decode cX8_fewest 55 = .ok (.invokevirtual 208, 3) := by decide +kernel
theorem dX8_fewest_58 : decode cX8_fewest 58 = .ok (.aload_n 0, 1) := by decide +kernel
theorem dX8_fewest_59 : decode cX8_fewest 59 = .ok (.getfield 205, 3) := by decide +kernel
theorem dX8_fewest_62 : decode cX8_fewest 62 = .ok (.iconst (-1), 1) := by decide +kernel
theorem dX8_fewest_63 : decode cX8_fewest 63 = .ok (.if_icmp .ne 9, 3) := by decide +kernel
theorem dX8_fewest_66 : decode cX8_fewest 66 = .ok (.aload_n 0, 1) := by decide +kernel
theorem dX8_fewest_67 : decode cX8_fewest 67 = .ok (.iconst 2, 1) := by decide +kernel
theorem dX8_fewest_68 : decode cX8_fewest 68 = .ok (.invokevirtual 63, 3) := by decide +kernel
theorem dX8_fewest_71 : decode cX8_fewest 71 = .ok (.ireturn, 1) := by decide +kernel
theorem dX8_fewest_72 : decode cX8_fewest 72 = .ok (.iload_n 2, 1) := by decide +kernel
theorem dX8_fewest_73 : decode cX8_fewest 73 = .ok (.iconst (-1), 1) := by decide +kernel
theorem dX8_fewest_74 : decode cX8_fewest 74 = .ok (.if_icmp .ne 10, 3) := by decide +kernel
theorem dX8_fewest_77 : decode cX8_fewest 77 = .ok (.aload_n 0, 1) := by decide +kernel
theorem dX8_fewest_78 : decode cX8_fewest 78 = .ok (.getfield 205, 3) := by decide +kernel
theorem dX8_fewest_81 : decode cX8_fewest 81 = .ok (.goto 23, 3) := by decide +kernel
theorem dX8_fewest_84 : decode cX8_fewest 84 = .ok (.iload_n 2, 1) := by decide +kernel
theorem dX8_fewest_85 : decode cX8_fewest 85 = .ok (.aload_n 0, 1) := by decide +kernel
theorem dX8_fewest_86 : decode cX8_fewest 86 = .ok (.getfield 7, 3) := by decide +kernel
theorem dX8_fewest_89 : decode cX8_fewest 89 = .ok (.iconst 5, 1) := by decide +kernel
theorem dX8_fewest_90 : decode cX8_fewest 90 = .ok (.iaload, 1) := by decide +kernel
theorem dX8_fewest_91 : decode cX8_fewest 91 = .ok (.if_icmp .ge 12, 3) := by decide +kernel
theorem dX8_fewest_94 : decode cX8_fewest 94 = .ok (.aload_n 0, 1) := by decide +kernel
theorem dX8_fewest_95 : decode cX8_fewest 95 = .ok (.getfield 37, 3) := by decide +kernel
theorem dX8_fewest_98 : decode cX8_fewest 98 = .ok (.iload_n 2, 1) := by decide +kernel
theorem dX8_fewest_99 : decode cX8_fewest 99 = .ok (.iaload, 1) := by decide +kernel
theorem dX8_fewest_100 : decode cX8_fewest 100 = .ok (.goto 4, 3) := by decide +kernel
theorem dX8_fewest_103 : decode cX8_fewest 103 = .ok (.iconst (-1), 1) := by decide +kernel
theorem dX8_fewest_104 : decode cX8_fewest 104 = .ok (.ireturn, 1) := by decide +kernel
theorem dX8_divisor_0 : decode cX8_divisor 0 = .ok (.iload_n 0, 1) := by decide +kernel
theorem dX8_divisor_1 : decode cX8_divisor 1 = .ok (.istore_n 2, 1) := by decide +kernel
theorem dX8_divisor_2 : decode cX8_divisor 2 = .ok (.iload_n 1, 1) := by decide +kernel
theorem dX8_divisor_3 : decode cX8_divisor 3 = .ok (.istore_n 3, 1) := by decide +kernel
theorem dX8_divisor_4 : decode cX8_divisor 4 = .ok (.iload_n 3, 1) := by decide +kernel
theorem dX8_divisor_5 : decode cX8_divisor 5 = .ok (.ifCond .eq 16, 3) := by decide +kernel
theorem dX8_divisor_8 : decode cX8_divisor 8 = .ok (.iload_n 2, 1) := by decide +kernel
theorem dX8_divisor_9 : decode cX8_divisor 9 = .ok (.iload_n 3, 1) := by decide +kernel
theorem dX8_divisor_10 : decode cX8_divisor 10 = .ok (.irem, 1) := by decide +kernel
theorem dX8_divisor_11 : decode cX8_divisor 11 = .ok (.istore 4, 2) := by decide +kernel
theorem dX8_divisor_13 : decode cX8_divisor 13 = .ok (.iload_n 3, 1) := by decide +kernel
theorem dX8_divisor_14 : decode cX8_divisor 14 = .ok (.istore_n 2, 1) := by decide +kernel
theorem dX8_divisor_15 : decode cX8_divisor 15 = .ok (.iload 4, 2) := by decide +kernel
theorem dX8_divisor_17 : decode cX8_divisor 17 = .ok (.istore_n 3, 1) := by decide +kernel
theorem dX8_divisor_18 : decode cX8_divisor 18 = .ok (.goto (-14), 3) := by decide +kernel
theorem dX8_divisor_21 : decode cX8_divisor 21 = .ok (.iload_n 2, 1) := by decide +kernel
theorem dX8_divisor_22 : decode cX8_divisor 22 = .ok (.ireturn, 1) := by decide +kernel
theorem dX8_odds_0 : decode cX8_odds 0 = .ok (.aload_n 0, 1) := by decide +kernel
theorem dX8_odds_1 : decode cX8_odds 1 = .ok (.iload_n 1, 1) := by decide +kernel
theorem dX8_odds_2 : decode cX8_odds 2 = .ok (.invokevirtual 175, 3) := by decide +kernel
theorem dX8_odds_5 : decode cX8_odds 5 = .ok (.ifCond .eq 12, 3) := by decide +kernel
theorem dX8_odds_8 : decode cX8_odds 8 = .ok (.iload_n 2, 1) := by decide +kernel
theorem dX8_odds_9 : decode cX8_odds 9 = .ok (.iconst 0, 1) := by decide +kernel
theorem dX8_odds_10 : decode cX8_odds 10 = .ok (.iconst 1, 1) := by decide +kernel
theorem dX8_odds_11 : decode cX8_odds 11 = .ok (.invokestatic 59, 3) := by decide +kernel
theorem dX8_odds_14 : decode cX8_odds 14 = .ok (.ifCond .ne 9, 3) := by decide +kernel
theorem dX8_odds_17 : decode cX8_odds 17 = .ok (.aload_n 0, 1) := by decide +kernel
theorem dX8_odds_18 : decode cX8_odds 18 = .ok (.iconst 1, 1) := by decide +kernel
theorem dX8_odds_19 : decode cX8_odds 19 = .ok (.invokevirtual 63, 3) := by decide +kernel
theorem dX8_odds_22 : decode cX8_odds 22 = .ok (.ireturn, 1) := by decide +kernel
theorem dX8_odds_23 : decode cX8_odds 23 = .ok (.aload_n 0, 1) := by decide +kernel
theorem dX8_odds_24 : decode cX8_odds 24 = .ok (.getfield 7, 3) := by decide +kernel
theorem dX8_odds_27 : decode cX8_odds 27 = .ok (.iconst 5, 1) := by decide +kernel
theorem dX8_odds_28 : decode cX8_odds 28 = .ok (.iaload, 1) := by decide +kernel
theorem dX8_odds_29 : decode cX8_odds 29 = .ok (.ifCond .ne 9, 3) := by decide +kernel
theorem dX8_odds_32 : decode cX8_odds 32 = .ok (.aload_n 0, 1) := by decide +kernel
theorem dX8_odds_33 : decode cX8_odds 33 = .ok (.iconst 3, 1) := by decide +kernel
theorem dX8_odds_34 : decode cX8_odds 34 = .ok (.invokevirtual 63, 3) := by decide +kernel
theorem dX8_odds_37 : decode cX8_odds 37 = .ok (.ireturn, 1) := by decide +kernel
theorem dX8_odds_38 : decode cX8_odds 38 = .ok (.iconst 1, 1) := by decide +kernel
theorem dX8_odds_39 : decode cX8_odds 39 = .ok (.aload_n 0, 1) := by decide +kernel
theorem dX8_odds_40 : decode cX8_odds 40 = .ok (.getfield 7, 3) := by decide +kernel
theorem dX8_odds_43 : decode cX8_odds 43 = .ok (.iconst 5, 1) := by decide +kernel
theorem dX8_odds_44 : decode cX8_odds 44 = .ok (.iaload, 1) := by decide +kernel
theorem dX8_odds_45 : decode cX8_odds 45 = .ok (.ishl, 1) := by decide +kernel
theorem dX8_odds_46 : decode cX8_odds 46 = .ok (.iconst 1, 1) := by decide +kernel
theorem dX8_odds_47 : decode cX8_odds 47 = .ok (.isub, 1) := by decide +kernel
theorem dX8_odds_48 : decode cX8_odds 48 = .ok (.istore_n 3, 1) := by decide +kernel
theorem dX8_odds_49 : decode cX8_odds 49 = .ok (.iconst 0, 1) := by decide +kernel
theorem dX8_odds_50 : decode cX8_odds 50 = .ok (.istore 4, 2) := by decide +kernel
theorem dX8_odds_52 : decode cX8_odds 52 = .ok (.iconst 1, 1) := by decide +kernel
theorem dX8_odds_53 : decode cX8_odds 53 = .ok (.istore 5, 2) := by decide +kernel
theorem dX8_odds_55 : decode cX8_odds 55 = .ok (.iload 5, 2) := by decide +kernel
theorem dX8_odds_57 : decode cX8_odds 57 = .ok (.iload_n 3, 1) := by decide +kernel
theorem dX8_odds_58 : decode cX8_odds 58 = .ok (.if_icmp .gt 33, 3) := by decide +kernel
theorem dX8_odds_61 : decode cX8_odds 61 = .ok (.iload 4, 2) := by decide +kernel
theorem dX8_odds_63 : decode cX8_odds 63 = .ok (.aload_n 0, 1) := by decide +kernel
theorem dX8_odds_64 : decode cX8_odds 64 = .ok (.iload 5, 2) := by decide +kernel
theorem dX8_odds_66 : decode cX8_odds 66 = .ok (.invokevirtual 154, 3) := by decide +kernel
theorem dX8_odds_69 : decode cX8_odds 69 = .ok (.aload_n 0, 1) := by decide +kernel
theorem dX8_odds_70 : decode cX8_odds 70 = .ok (.iload_n 1, 1) := by decide +kernel
theorem dX8_odds_71 : decode cX8_odds 71 = .ok (.invokevirtual 157, 3) := by decide +kernel
theorem dX8_odds_74 : decode cX8_odds 74 = .ok (.if_icmp .gt 7, 3) := by decide +kernel
theorem dX8_odds_77 : decode cX8_odds 77 = .ok (.iconst 1, 1) := by decide +kernel
theorem dX8_odds_78 : decode cX8_odds 78 = .ok (.goto 4, 3) := by decide +kernel
theorem dX8_odds_81 : decode cX8_odds 81 = .ok (.iconst 0, 1) := by decide +kernel
theorem dX8_odds_82 : decode cX8_odds 82 = .ok (.iadd, 1) := by decide +kernel
theorem dX8_odds_83 : decode cX8_odds 83 = .ok (.istore 4, 2) := by decide +kernel
theorem dX8_odds_85 : decode cX8_odds 85 = .ok (.iinc 5 1, 3) := by decide +kernel
theorem dX8_odds_88 : decode cX8_odds 88 = .ok (.goto (-33), 3) := by decide +kernel
theorem dX8_odds_91 : decode cX8_odds 91 = .ok (.iload 4, 2) := by decide +kernel
theorem dX8_odds_93 : decode cX8_odds 93 = .ok (.iload_n 3, 1) := by decide +kernel
theorem dX8_odds_94 : decode cX8_odds 94 = .ok (.invokestatic 211, 3) := by decide +kernel
theorem dX8_odds_97 : decode cX8_odds 97 = .ok (.istore 5, 2) := by decide +kernel
theorem dX8_odds_99 : decode cX8_odds 99 = .ok (.iload_n 2, 1) := by decide +kernel
theorem dX8_odds_100 : decode cX8_odds 100 = .ok (.ifCond .ne 11, 3) := by decide +kernel
theorem dX8_odds_103 : decode cX8_odds 103 = .ok (.iload 4, 2) := by decide +kernel
theorem dX8_odds_105 : decode cX8_odds 105 = .ok (.iload 5, 2) := by decide +kernel
theorem dX8_odds_107 : decode cX8_odds 107 = .ok (.idiv, 1) := by decide +kernel
theorem dX8_odds_108 : decode cX8_odds 108 = .ok (.goto 7, 3) := by decide +kernel
theorem dX8_odds_111 : decode cX8_odds 111 = .ok (.iload_n 3, 1) := by decide +kernel
theorem dX8_odds_112 : decode cX8_odds 112 = .ok (.iload 5, 2) := by decide +kernel
theorem dX8_odds_114 : decode cX8_odds 114 = .ok (.idiv, 1) := by decide +kernel
theorem dX8_odds_115 : decode cX8_odds 115 = .ok (.ireturn, 1) := by decide +kernel
theorem dX8_whose_0 : decode cX8_whose 0 = .ok (.iload_n 1, 1) := by decide +kernel
theorem dX8_whose_1 : decode cX8_whose 1 = .ok (.ifCond .lt 12, 3) := by decide +kernel
theorem dX8_whose_4 : decode cX8_whose 4 = .ok (.iload_n 2, 1) := by decide +kernel
theorem dX8_whose_5 : decode cX8_whose 5 = .ok (.iconst 0, 1) := by decide +kernel
theorem dX8_whose_6 : decode cX8_whose 6 = .ok (.iconst 1, 1) := by decide +kernel
theorem dX8_whose_7 : decode cX8_whose 7 = .ok (.invokestatic 59, 3) := by decide +kernel
theorem dX8_whose_10 : decode cX8_whose 10 = .ok (.ifCond .ne 9, 3) := by decide +kernel
theorem dX8_whose_13 : decode cX8_whose 13 = .ok (.aload_n 0, 1) := by decide +kernel
theorem dX8_whose_14 : decode cX8_whose 14 = .ok (.iconst 1, 1) := by decide +kernel
theorem dX8_whose_15 : decode cX8_whose 15 = .ok (.invokevirtual 63, 3) := by decide +kernel
theorem dX8_whose_18 : decode cX8_whose 18 = .ok (.ireturn, 1) := by decide +kernel
theorem dX8_whose_19 : decode cX8_whose 19 = .ok (.iconst 0, 1) := by decide +kernel
theorem dX8_whose_20 : decode cX8_whose 20 = .ok (.istore_n 3, 1) := by decide +kernel
theorem dX8_whose_21 : decode cX8_whose 21 = .ok (.iconst (-1), 1) := by decide +kernel
theorem dX8_whose_22 : decode cX8_whose 22 = .ok (.istore 4, 2) := by decide +kernel
theorem dX8_whose_24 : decode cX8_whose 24 = .ok (.iconst 1, 1) := by decide +kernel
theorem dX8_whose_25 : decode cX8_whose 25 = .ok (.aload_n 0, 1) := by decide +kernel
theorem dX8_whose_26 : decode cX8_whose 26 = .ok (.getfield 7, 3) := by decide +kernel
theorem dX8_whose_29 : decode cX8_whose 29 = .ok (.iconst 5, 1) := by decide +kernel
theorem dX8_whose_30 : decode cX8_whose 30 = .ok (.iaload, 1) := by decide +kernel
theorem dX8_whose_31 : decode cX8_whose 31 = .ok (.ishl, 1) := by decide +kernel
theorem dX8_whose_32 : decode cX8_whose 32 = .ok (.iconst 1, 1) := by decide +kernel
theorem dX8_whose_33 : decode cX8_whose 33 = .ok (.isub, 1) := by decide +kernel
theorem dX8_whose_34 : decode cX8_whose 34 = .ok (.istore 5, 2) := by decide +kernel
theorem dX8_whose_36 : decode cX8_whose 36 = .ok (.iload 5, 2) := by decide +kernel
theorem dX8_whose_38 : decode cX8_whose 38 = .ok (.ifCond .le 53, 3) := by decide +kernel
theorem dX8_whose_41 : decode cX8_whose 41 = .ok (.aload_n 0, 1) := by decide +kernel
theorem dX8_whose_42 : decode cX8_whose 42 = .ok (.iload 5, 2) := by decide +kernel
theorem dX8_whose_44 : decode cX8_whose 44 = .ok (.invokevirtual 154, 3) := by decide +kernel
theorem dX8_whose_47 : decode cX8_whose 47 = .ok (.iload_n 1, 1) := by decide +kernel
theorem dX8_whose_48 : decode cX8_whose 48 = .ok (.if_icmp .ne 7, 3) := by decide +kernel
theorem dX8_whose_51 : decode cX8_whose 51 = .ok (.iconst 1, 1) := by decide +kernel
theorem dX8_whose_52 : decode cX8_whose 52 = .ok (.goto 4, 3) := by decide +kernel
theorem dX8_whose_55 : decode cX8_whose 55 = .ok (.iconst 0, 1) := by decide +kernel
theorem dX8_whose_56 : decode cX8_whose 56 = .ok (.istore 6, 2) := by decide +kernel
theorem dX8_whose_58 : decode cX8_whose 58 = .ok (.iload_n 3, 1) := by decide +kernel
theorem dX8_whose_59 : decode cX8_whose 59 = .ok (.iload 6, 2) := by decide +kernel
theorem dX8_whose_61 : decode cX8_whose 61 = .ok (.ifCond .eq 7, 3) := by decide +kernel
theorem dX8_whose_64 : decode cX8_whose 64 = .ok (.iconst 1, 1) := by decide +kernel
theorem dX8_whose_65 : decode cX8_whose 65 = .ok (.goto 4, 3) := by decide +kernel
theorem dX8_whose_68 : decode cX8_whose 68 = .ok (.iconst 0, 1) := by decide +kernel
theorem dX8_whose_69 : decode cX8_whose 69 = .ok (.iadd, 1) := by decide +kernel
theorem dX8_whose_70 : decode cX8_whose 70 = .ok (.istore_n 3, 1) := by decide +kernel
theorem dX8_whose_71 : decode cX8_whose 71 = .ok (.iload 6, 2) := by decide +kernel
theorem dX8_whose_73 : decode cX8_whose 73 = .ok (.ifCond .eq 8, 3) := by decide +kernel
theorem dX8_whose_76 : decode cX8_whose 76 = .ok (.iload 5, 2) := by decide +kernel
theorem dX8_whose_78 : decode cX8_whose 78 = .ok (.goto 5, 3) := by decide +kernel
theorem dX8_whose_81 : decode cX8_whose 81 = .ok (.iload 4, 2) := by decide +kernel
theorem dX8_whose_83 : decode cX8_whose 83 = .ok (.istore 4, 2) := by decide +kernel
theorem dX8_whose_85 : decode cX8_whose 85 = .ok (.iinc 5 (-1), 3) := by decide +kernel
theorem dX8_whose_88 : decode cX8_whose 88 = .ok (.goto (-52), 3) := by decide +kernel
theorem dX8_whose_91 : decode cX8_whose 91 = .ok (.iload_n 2, 1) := by decide +kernel
theorem dX8_whose_92 : decode cX8_whose 92 = .ok (.ifCond .ne 7, 3) := by decide +kernel
theorem dX8_whose_95 : decode cX8_whose 95 = .ok (.iload_n 3, 1) := by decide +kernel
theorem dX8_whose_96 : decode cX8_whose 96 = .ok (.goto 19, 3) := by decide +kernel
theorem dX8_whose_99 : decode cX8_whose 99 = .ok (.iload 4, 2) := by decide +kernel
theorem dX8_whose_101 : decode cX8_whose 101 = .ok (.iconst (-1), 1) := by decide +kernel
theorem dX8_whose_102 : decode cX8_whose 102 = .ok (.if_icmp .ne 11, 3) := by decide +kernel
theorem dX8_whose_105 : decode cX8_whose 105 = .ok (.aload_n 0, 1) := by decide +kernel
theorem dX8_whose_106 : decode cX8_whose 106 = .ok (.iconst 2, 1) := by decide +kernel
theorem dX8_whose_107 : decode cX8_whose 107 = .ok (.invokevirtual 63, 3) := by decide +kernel
theorem dX8_whose_110 : decode cX8_whose 110 = .ok (.goto 5, 3) := by decide +kernel
theorem dX8_whose_113 : decode cX8_whose 113 = .ok (.iload 4, 2) := by decide +kernel
theorem dX8_whose_115 : decode cX8_whose 115 = .ok (.ireturn, 1) := by decide +kernel
theorem dX8_areDrySo_0 : decode cX8_areDrySo 0 = .ok (.aload_n 0, 1) := by decide +kernel
theorem dX8_areDrySo_1 : decode cX8_areDrySo 1 = .ok (.getfield 49, 3) := by decide +kernel
theorem dX8_areDrySo_4 : decode cX8_areDrySo 4 = .ok (.iload_n 1, 1) := by decide +kernel
theorem dX8_areDrySo_5 : decode cX8_areDrySo 5 = .ok (.iaload, 1) := by decide +kernel
theorem dX8_areDrySo_6 : decode cX8_areDrySo 6 = .ok (.aload_n 0, 1) := by decide +kernel
theorem dX8_areDrySo_7 : decode cX8_areDrySo 7 = .ok (.getfield 7, 3) := by decide +kernel
theorem dX8_areDrySo_10 : decode cX8_areDrySo 10 = .ok (.iconst 5, 1) := by decide +kernel
theorem dX8_areDrySo_11 : decode cX8_areDrySo 11 = .ok (.iaload, 1) := by decide +kernel
theorem dX8_areDrySo_12 : decode cX8_areDrySo 12 = .ok (.if_icmp .gt 7, 3) := by decide +kernel
theorem dX8_areDrySo_15 : decode cX8_areDrySo 15 = .ok (.iconst 1, 1) := by decide +kernel
theorem dX8_areDrySo_16 : decode cX8_areDrySo 16 = .ok (.goto 4, 3) := by decide +kernel
theorem dX8_areDrySo_19 : decode cX8_areDrySo 19 = .ok (.iconst 0, 1) := by decide +kernel
theorem dX8_areDrySo_20 : decode cX8_areDrySo 20 = .ok (.istore_n 2, 1) := by decide +kernel
theorem dX8_areDrySo_21 : decode cX8_areDrySo 21 = .ok (.iconst 0, 1) := by decide +kernel
theorem dX8_areDrySo_22 : decode cX8_areDrySo 22 = .ok (.istore_n 3, 1) := by decide +kernel
theorem dX8_areDrySo_23 : decode cX8_areDrySo 23 = .ok (.iload_n 3, 1) := by decide +kernel
theorem dX8_areDrySo_24 : decode cX8_areDrySo 24 = .ok (.aload_n 0, 1) := by decide +kernel
theorem dX8_areDrySo_25 : decode cX8_areDrySo 25 = .ok (.getfield 49, 3) := by decide +kernel
theorem dX8_areDrySo_28 : decode cX8_areDrySo 28 = .ok (.iload_n 1, 1) := by decide +kernel
theorem dX8_areDrySo_29 : decode cX8_areDrySo 29 = .ok (.iaload, 1) := by decide +kernel
theorem dX8_areDrySo_30 : decode cX8_areDrySo 30 = .ok (.if_icmp .ge 39, 3) := by decide +kernel
theorem dX8_areDrySo_33 : decode cX8_areDrySo 33 = .ok (.iload_n 2, 1) := by decide +kernel
theorem dX8_areDrySo_34 : decode cX8_areDrySo 34 = .ok (.ifCond .eq 35, 3) := by decide +kernel
theorem dX8_areDrySo_37 : decode cX8_areDrySo 37 = .ok (.aload_n 0, 1) := by decide +kernel
theorem dX8_areDrySo_38 : decode cX8_areDrySo 38 = .ok (.iload_n 3, 1) := by decide +kernel
theorem dX8_areDrySo_39 : decode cX8_areDrySo 39 = .ok (.iconst 4, 1) := by decide +kernel
theorem dX8_areDrySo_40 : decode cX8_areDrySo 40 = .ok (.invokevirtual 123, 3) := by decide +kernel
theorem dX8_areDrySo_43 : decode cX8_areDrySo 43 = .ok (.aload_n 0, 1) := by decide +kernel
theorem dX8_areDrySo_44 : decode cX8_areDrySo 44 = .ok (.getfield 52, 3) := by decide +kernel
theorem dX8_areDrySo_47 : decode cX8_areDrySo 47 = .ok (.bipush 24, 2) := by decide +kernel
theorem dX8_areDrySo_49 : decode cX8_areDrySo 49 = .ok (.iload_n 1, 1) := by decide +kernel
theorem dX8_areDrySo_50 : decode cX8_areDrySo 50 = .ok (.imul, 1) := by decide +kernel
theorem dX8_areDrySo_51 : decode cX8_areDrySo 51 = .ok (.iload_n 3, 1) := by decide +kernel
theorem dX8_areDrySo_52 : decode cX8_areDrySo 52 = .ok (.iadd, 1) := by decide +kernel
theorem dX8_areDrySo_53 : decode cX8_areDrySo 53 = .ok (.iaload, 1) := by decide +kernel
theorem dX8_areDrySo_54 : decode cX8_areDrySo 54 = .ok (.if_icmp .ne 7, 3) := by decide +kernel
theorem dX8_areDrySo_57 : decode cX8_areDrySo 57 = .ok (.iconst 1, 1) := by decide +kernel
theorem dX8_areDrySo_58 : decode cX8_areDrySo 58 = .ok (.goto 4, 3) := by decide +kernel
theorem dX8_areDrySo_61 : decode cX8_areDrySo 61 = .ok (.iconst 0, 1) := by decide +kernel
theorem dX8_areDrySo_62 : decode cX8_areDrySo 62 = .ok (.istore_n 2, 1) := by decide +kernel
theorem dX8_areDrySo_63 : decode cX8_areDrySo 63 = .ok (.iinc 3 1, 3) := by decide +kernel
theorem dX8_areDrySo_66 : decode cX8_areDrySo 66 = .ok (.goto (-43), 3) := by decide +kernel
theorem dX8_areDrySo_69 : decode cX8_areDrySo 69 = .ok (.iload_n 2, 1) := by decide +kernel
theorem dX8_areDrySo_70 : decode cX8_areDrySo 70 = .ok (.ireturn, 1) := by decide +kernel
theorem dX8_fits_0 : decode cX8_fits 0 = .ok (.aload_n 0, 1) := by decide +kernel
theorem dX8_fits_1 : decode cX8_fits 1 = .ok (.iload_n 1, 1) := by decide +kernel
theorem dX8_fits_2 : decode cX8_fits 2 = .ok (.invokevirtual 214, 3) := by decide +kernel
theorem dX8_fits_5 : decode cX8_fits 5 = .ok (.istore_n 2, 1) := by decide +kernel
theorem dX8_fits_6 : decode cX8_fits 6 = .ok (.iload_n 2, 1) := by decide +kernel
theorem dX8_fits_7 : decode cX8_fits 7 = .ok (.ifCond .eq 9, 3) := by decide +kernel
theorem dX8_fits_10 : decode cX8_fits 10 = .ok (.aload_n 0, 1) := by decide +kernel
theorem dX8_fits_11 : decode cX8_fits 11 = .ok (.iload_n 2, 1) := by decide +kernel
theorem dX8_fits_12 : decode cX8_fits 12 = .ok (.invokevirtual 63, 3) := by decide +kernel
theorem dX8_fits_15 : decode cX8_fits 15 = .ok (.ireturn, 1) := by decide +kernel
theorem dX8_fits_16 : decode cX8_fits 16 = .ok (.aload_n 0, 1) := by decide +kernel
theorem dX8_fits_17 : decode cX8_fits 17 = .ok (.invokevirtual 196, 3) := by decide +kernel
theorem dX8_fits_20 : decode cX8_fits 20 = .ok (.iconst 0, 1) := by decide +kernel
theorem dX8_fits_21 : decode cX8_fits 21 = .ok (.istore_n 3, 1) := by decide +kernel
theorem dX8_fits_22 : decode cX8_fits 22 = .ok (.iload_n 3, 1) := by decide +kernel
theorem dX8_fits_23 : decode cX8_fits 23 = .ok (.bipush 72, 2) := by decide +kernel
theorem dX8_fits_25 : decode cX8_fits 25 = .ok (.if_icmp .gt 21, 3) := by decide +kernel
theorem dX8_fits_28 : decode cX8_fits 28 = .ok (.aload_n 0, 1) := by decide +kernel
theorem dX8_fits_29 : decode cX8_fits 29 = .ok (.iload_n 1, 1) := by decide +kernel
theorem dX8_fits_30 : decode cX8_fits 30 = .ok (.invokevirtual 217, 3) := by decide +kernel
theorem dX8_fits_33 : decode cX8_fits 33 = .ok (.ifCond .ne 13, 3) := by decide +kernel
theorem dX8_fits_36 : decode cX8_fits 36 = .ok (.aload_n 0, 1) := by decide +kernel
theorem dX8_fits_37 : decode cX8_fits 37 = .ok (.invokevirtual 187, 3) := by decide +kernel
theorem dX8_fits_40 : decode cX8_fits 40 = .ok (.iinc 3 1, 3) := by decide +kernel
theorem dX8_fits_43 : decode cX8_fits 43 = .ok (.goto (-21), 3) := by decide +kernel
theorem dX8_fits_46 : decode cX8_fits 46 = .ok (.aload_n 0, 1) := by decide +kernel
theorem dX8_fits_47 : decode cX8_fits 47 = .ok (.invokevirtual 199, 3) := by decide +kernel
theorem dX8_fits_50 : decode cX8_fits 50 = .ok (.iload_n 3, 1) := by decide +kernel
theorem dX8_fits_51 : decode cX8_fits 51 = .ok (.bipush 72, 2) := by decide +kernel
theorem dX8_fits_53 : decode cX8_fits 53 = .ok (.if_icmp .le 11, 3) := by decide +kernel
theorem dX8_fits_56 : decode cX8_fits 56 = .ok (.aload_n 0, 1) := by decide +kernel
theorem dX8_fits_57 : decode cX8_fits 57 = .ok (.iconst 2, 1) := by decide +kernel
theorem dX8_fits_58 : decode cX8_fits 58 = .ok (.invokevirtual 63, 3) := by decide +kernel
theorem dX8_fits_61 : decode cX8_fits 61 = .ok (.goto 4, 3) := by decide +kernel
theorem dX8_fits_64 : decode cX8_fits 64 = .ok (.iload_n 3, 1) := by decide +kernel
theorem dX8_fits_65 : decode cX8_fits 65 = .ok (.ireturn, 1) := by decide +kernel
theorem dX8_starts_0 : decode cX8_starts 0 = .ok (.aload_n 0, 1) := by decide +kernel
theorem dX8_starts_1 : decode cX8_starts 1 = .ok (.getfield 220, 3) := by decide +kernel
theorem dX8_starts_4 : decode cX8_starts 4 = .ok (.bipush 30, 2) := by decide +kernel
theorem dX8_starts_6 : decode cX8_starts 6 = .ok (.if_icmp .ge 23, 3) := by decide +kernel
theorem dX8_starts_9 : decode cX8_starts 9 = .ok (.aload_n 0, 1) := by decide +kernel
theorem dX8_starts_10 : decode cX8_starts 10 = .ok (.getfield 43, 3) := by decide +kernel
theorem dX8_starts_13 : decode cX8_starts 13 = .ok (.aload_n 0, 1) := by decide +kernel
theorem dX8_starts_14 : decode cX8_starts 14 = .ok (.getfield 220, 3) := by decide +kernel
theorem dX8_starts_17 : decode cX8_starts 17 = .ok (.iload_n 1, 1) := by decide +kernel
theorem dX8_starts_18 : decode cX8_starts 18 = .ok (.iastore, 1) := by decide +kernel
theorem dX8_starts_19 : decode cX8_starts 19 = .ok (.aload_n 0, 1) := by decide +kernel
theorem dX8_starts_20 : decode cX8_starts 20 = .ok (.dup, 1) := by decide +kernel
theorem dX8_starts_21 : decode cX8_starts 21 = .ok (.getfield 220, 3) := by decide +kernel
theorem dX8_starts_24 : decode cX8_starts 24 = .ok (.iconst 1, 1) := by decide +kernel
theorem dX8_starts_25 : decode cX8_starts 25 = .ok (.iadd, 1) := by decide +kernel
theorem dX8_starts_26 : decode cX8_starts 26 = .ok (.putfield 220, 3) := by decide +kernel
theorem dX8_starts_29 : decode cX8_starts 29 = .ok (.return_, 1) := by decide +kernel
theorem dX8_above_0 : decode cX8_above 0 = .ok (.iload_n 0, 1) := by decide +kernel
theorem dX8_above_1 : decode cX8_above 1 = .ok (.iconst 4, 1) := by decide +kernel
theorem dX8_above_2 : decode cX8_above 2 = .ok (.if_icmp .ne 7, 3) := by decide +kernel
theorem dX8_above_5 : decode cX8_above 5 = .ok (.iconst 1, 1) := by decide +kernel
theorem dX8_above_6 : decode cX8_above 6 = .ok (.goto 13, 3) := by decide +kernel
theorem dX8_above_9 : decode cX8_above 9 = .ok (.iload_n 0, 1) := by decide +kernel
theorem dX8_above_10 : decode cX8_above 10 = .ok (.iconst 5, 1) := by decide +kernel
theorem dX8_above_11 : decode cX8_above 11 = .ok (.if_icmp .ne 7, 3) := by decide +kernel
theorem dX8_above_14 : decode cX8_above 14 = .ok (.iconst 2, 1) := by decide +kernel
theorem dX8_above_15 : decode cX8_above 15 = .ok (.goto 4, 3) := by decide +kernel
theorem dX8_above_18 : decode cX8_above 18 = .ok (.iconst 0, 1) := by decide +kernel
theorem dX8_above_19 : decode cX8_above 19 = .ok (.ireturn, 1) := by decide +kernel
theorem dX8_kindNow_0 : decode cX8_kindNow 0 = .ok (.aload_n 0, 1) := by decide +kernel
theorem dX8_kindNow_1 : decode cX8_kindNow 1 = .ok (.aload_n 0, 1) := by decide +kernel
theorem dX8_kindNow_2 : decode cX8_kindNow 2 = .ok (.getfield 223, 3) := by decide +kernel
theorem dX8_kindNow_5 : decode cX8_kindNow 5 = .ok (.iconst 0, 1) := by decide +kernel
theorem dX8_kindNow_6 : decode cX8_kindNow 6 = .ok (.invokevirtual 123, 3) := by decide +kernel
theorem dX8_kindNow_9 : decode cX8_kindNow 9 = .ok (.ireturn, 1) := by decide +kernel
theorem dX8_mNow_0 : decode cX8_mNow 0 = .ok (.aload_n 0, 1) := by decide +kernel
theorem dX8_mNow_1 : decode cX8_mNow 1 = .ok (.aload_n 0, 1) := by decide +kernel
theorem dX8_mNow_2 : decode cX8_mNow 2 = .ok (.getfield 223, 3) := by decide +kernel
theorem dX8_mNow_5 : decode cX8_mNow 5 = .ok (.iconst 1, 1) := by decide +kernel
theorem dX8_mNow_6 : decode cX8_mNow 6 = .ok (.invokevirtual 123, 3) := by decide +kernel
theorem dX8_mNow_9 : decode cX8_mNow 9 = .ok (.ireturn, 1) := by decide +kernel
theorem dX8_gulpsAs_0 : decode cX8_gulpsAs 0 = .ok (.iload_n 1, 1) := by decide +kernel
theorem dX8_gulpsAs_1 : decode cX8_gulpsAs 1 = .ok (.tableswitch 101 0 6 #[43, 56, 101, 101, 74, 101, 92], 43) := by decide +kernel
theorem dX8_gulpsAs_44 : decode cX8_gulpsAs 44 = .ok (.aload_n 0, 1) := by decide +kernel
theorem dX8_gulpsAs_45 : decode cX8_gulpsAs 45 = .ok (.bipush 10, 2) := by decide +kernel
theorem dX8_gulpsAs_47 : decode cX8_gulpsAs 47 = .ok (.invokevirtual 226, 3) := by decide +kernel
theorem dX8_gulpsAs_50 : decode cX8_gulpsAs 50 = .ok (.iload_n 2, 1) := by decide +kernel
theorem dX8_gulpsAs_51 : decode cX8_gulpsAs 51 = .ok (.aload_n 0, 1) := by decide +kernel
theorem dX8_gulpsAs_52 : decode cX8_gulpsAs 52 = .ok (.getfield 223, 3) := by decide +kernel
theorem dX8_gulpsAs_55 : decode cX8_gulpsAs 55 = .ok (.iadd, 1) := by decide +kernel
theorem dX8_gulpsAs_56 : decode cX8_gulpsAs 56 = .ok (.ireturn, 1) := by decide +kernel
theorem dX8_gulpsAs_57 : decode cX8_gulpsAs 57 = .ok (.aload_n 0, 1) := by decide +kernel
theorem dX8_gulpsAs_58 : decode cX8_gulpsAs 58 = .ok (.bipush 20, 2) := by decide +kernel
theorem dX8_gulpsAs_60 : decode cX8_gulpsAs 60 = .ok (.invokevirtual 226, 3) := by decide +kernel
theorem dX8_gulpsAs_63 : decode cX8_gulpsAs 63 = .ok (.aload_n 0, 1) := by decide +kernel
theorem dX8_gulpsAs_64 : decode cX8_gulpsAs 64 = .ok (.iconst 1, 1) := by decide +kernel
theorem dX8_gulpsAs_65 : decode cX8_gulpsAs 65 = .ok (.invokestatic 172, 3) := by decide +kernel
theorem dX8_gulpsAs_68 : decode cX8_gulpsAs 68 = .ok (.iload_n 2, 1) := by decide +kernel
theorem dX8_gulpsAs_69 : decode cX8_gulpsAs 69 = .ok (.invokevirtual 230, 3) := by decide +kernel
theorem dX8_gulpsAs_72 : decode cX8_gulpsAs 72 = .ok (.iconst 4, 1) := by decide +kernel
theorem dX8_gulpsAs_73 : decode cX8_gulpsAs 73 = .ok (.isub, 1) := by decide +kernel
theorem dX8_gulpsAs_74 : decode cX8_gulpsAs 74 = .ok (.ireturn, 1) := by decide +kernel
theorem dX8_gulpsAs_75 : decode cX8_gulpsAs 75 = .ok (.aload_n 0, 1) := by decide +kernel
theorem dX8_gulpsAs_76 : decode cX8_gulpsAs 76 = .ok (.bipush 50, 2) := by decide +kernel
theorem dX8_gulpsAs_78 : decode cX8_gulpsAs 78 = .ok (.invokevirtual 226, 3) := by decide +kernel
theorem dX8_gulpsAs_81 : decode cX8_gulpsAs 81 = .ok (.aload_n 0, 1) := by decide +kernel
theorem dX8_gulpsAs_82 : decode cX8_gulpsAs 82 = .ok (.iconst 4, 1) := by decide +kernel
theorem dX8_gulpsAs_83 : decode cX8_gulpsAs 83 = .ok (.invokestatic 172, 3) := by decide +kernel
theorem dX8_gulpsAs_86 : decode cX8_gulpsAs 86 = .ok (.iload_n 2, 1) := by decide +kernel
theorem dX8_gulpsAs_87 : decode cX8_gulpsAs 87 = .ok (.invokevirtual 230, 3) := by decide +kernel
theorem dX8_gulpsAs_90 : decode cX8_gulpsAs 90 = .ok (.iconst 3, 1) := by decide +kernel
theorem dX8_gulpsAs_91 : decode cX8_gulpsAs 91 = .ok (.imul, 1) := by decide +kernel
theorem dX8_gulpsAs_92 : decode cX8_gulpsAs 92 = .ok (.ireturn, 1) := by decide +kernel
theorem dX8_gulpsAs_93 : decode cX8_gulpsAs 93 = .ok (.aload_n 0, 1) := by decide +kernel
theorem dX8_gulpsAs_94 : decode cX8_gulpsAs 94 = .ok (.bipush 70, 2) := by decide +kernel
theorem dX8_gulpsAs_96 : decode cX8_gulpsAs 96 = .ok (.invokevirtual 226, 3) := by decide +kernel
theorem dX8_gulpsAs_99 : decode cX8_gulpsAs 99 = .ok (.bipush 9, 2) := by decide +kernel
theorem dX8_gulpsAs_101 : decode cX8_gulpsAs 101 = .ok (.ireturn, 1) := by decide +kernel
theorem dX8_gulpsAs_102 : decode cX8_gulpsAs 102 = .ok (.aload_n 0, 1) := by decide +kernel
theorem dX8_gulpsAs_103 : decode cX8_gulpsAs 103 = .ok (.iload_n 1, 1) := by decide +kernel
theorem dX8_gulpsAs_104 : decode cX8_gulpsAs 104 = .ok (.invokestatic 172, 3) := by decide +kernel
theorem dX8_gulpsAs_107 : decode cX8_gulpsAs 107 = .ok (.iload_n 2, 1) := by decide +kernel
theorem dX8_gulpsAs_108 : decode cX8_gulpsAs 108 = .ok (.invokevirtual 230, 3) := by decide +kernel
theorem dX8_gulpsAs_111 : decode cX8_gulpsAs 111 = .ok (.ireturn, 1) := by decide +kernel
theorem dX8_sipsAs_0 : decode cX8_sipsAs 0 = .ok (.iload_n 1, 1) := by decide +kernel
theorem dX8_sipsAs_1 : decode cX8_sipsAs 1 = .ok (.tableswitch 119 0 6 #[43, 119, 61, 119, 119, 79, 97], 43) := by decide +kernel
theorem dX8_sipsAs_44 : decode cX8_sipsAs 44 = .ok (.aload_n 0, 1) := by decide +kernel
theorem dX8_sipsAs_45 : decode cX8_sipsAs 45 = .ok (.bipush 11, 2) := by decide +kernel
theorem dX8_sipsAs_47 : decode cX8_sipsAs 47 = .ok (.invokevirtual 226, 3) := by decide +kernel
theorem dX8_sipsAs_50 : decode cX8_sipsAs 50 = .ok (.aload_n 0, 1) := by decide +kernel
theorem dX8_sipsAs_51 : decode cX8_sipsAs 51 = .ok (.aload_n 0, 1) := by decide +kernel
theorem dX8_sipsAs_52 : decode cX8_sipsAs 52 = .ok (.invokevirtual 233, 3) := by decide +kernel
theorem dX8_sipsAs_55 : decode cX8_sipsAs 55 = .ok (.iload_n 2, 1) := by decide +kernel
theorem dX8_sipsAs_56 : decode cX8_sipsAs 56 = .ok (.invokevirtual 230, 3) := by decide +kernel
theorem dX8_sipsAs_59 : decode cX8_sipsAs 59 = .ok (.iconst 2, 1) := by decide +kernel
theorem dX8_sipsAs_60 : decode cX8_sipsAs 60 = .ok (.imul, 1) := by decide +kernel
theorem dX8_sipsAs_61 : decode cX8_sipsAs 61 = .ok (.ireturn, 1) := by decide +kernel
theorem dX8_sipsAs_62 : decode cX8_sipsAs 62 = .ok (.aload_n 0, 1) := by decide +kernel
theorem dX8_sipsAs_63 : decode cX8_sipsAs 63 = .ok (.bipush 30, 2) := by decide +kernel
theorem dX8_sipsAs_65 : decode cX8_sipsAs 65 = .ok (.invokevirtual 226, 3) := by decide +kernel
theorem dX8_sipsAs_68 : decode cX8_sipsAs 68 = .ok (.iconst 0, 1) := by decide +kernel
theorem dX8_sipsAs_69 : decode cX8_sipsAs 69 = .ok (.aload_n 0, 1) := by decide +kernel
theorem dX8_sipsAs_70 : decode cX8_sipsAs 70 = .ok (.iconst 2, 1) := by decide +kernel
theorem dX8_sipsAs_71 : decode cX8_sipsAs 71 = .ok (.invokestatic 172, 3) := by decide +kernel
theorem dX8_sipsAs_74 : decode cX8_sipsAs 74 = .ok (.iload_n 2, 1) := by decide +kernel
theorem dX8_sipsAs_75 : decode cX8_sipsAs 75 = .ok (.invokevirtual 236, 3) := by decide +kernel
theorem dX8_sipsAs_78 : decode cX8_sipsAs 78 = .ok (.isub, 1) := by decide +kernel
theorem dX8_sipsAs_79 : decode cX8_sipsAs 79 = .ok (.ireturn, 1) := by decide +kernel
theorem dX8_sipsAs_80 : decode cX8_sipsAs 80 = .ok (.aload_n 0, 1) := by decide +kernel
theorem dX8_sipsAs_81 : decode cX8_sipsAs 81 = .ok (.bipush 60, 2) := by decide +kernel
theorem dX8_sipsAs_83 : decode cX8_sipsAs 83 = .ok (.invokevirtual 226, 3) := by decide +kernel
theorem dX8_sipsAs_86 : decode cX8_sipsAs 86 = .ok (.aload_n 0, 1) := by decide +kernel
theorem dX8_sipsAs_87 : decode cX8_sipsAs 87 = .ok (.iconst 5, 1) := by decide +kernel
theorem dX8_sipsAs_88 : decode cX8_sipsAs 88 = .ok (.invokestatic 172, 3) := by decide +kernel
theorem dX8_sipsAs_91 : decode cX8_sipsAs 91 = .ok (.iload_n 2, 1) := by decide +kernel
theorem dX8_sipsAs_92 : decode cX8_sipsAs 92 = .ok (.iconst 1, 1) := by decide +kernel
theorem dX8_sipsAs_93 : decode cX8_sipsAs 93 = .ok (.iadd, 1) := by decide +kernel
theorem dX8_sipsAs_94 : decode cX8_sipsAs 94 = .ok (.invokevirtual 236, 3) := by decide +kernel
theorem dX8_sipsAs_97 : decode cX8_sipsAs 97 = .ok (.ireturn, 1) := by decide +kernel
theorem dX8_sipsAs_98 : decode cX8_sipsAs 98 = .ok (.aload_n 0, 1) := by decide +kernel
theorem dX8_sipsAs_99 : decode cX8_sipsAs 99 = .ok (.bipush 71, 2) := by decide +kernel
theorem dX8_sipsAs_101 : decode cX8_sipsAs 101 = .ok (.invokevirtual 226, 3) := by decide +kernel
theorem dX8_sipsAs_104 : decode cX8_sipsAs 104 = .ok (.aload_n 0, 1) := by decide +kernel
theorem dX8_sipsAs_105 : decode cX8_sipsAs 105 = .ok (.bipush 6, 2) := by decide +kernel
theorem dX8_sipsAs_107 : decode cX8_sipsAs 107 = .ok (.invokestatic 172, 3) := by decide +kernel
theorem dX8_sipsAs_110 : decode cX8_sipsAs 110 = .ok (.iload_n 2, 1) := by decide +kernel
theorem dX8_sipsAs_111 : decode cX8_sipsAs 111 = .ok (.invokevirtual 236, 3) := by decide +kernel
theorem dX8_sipsAs_114 : decode cX8_sipsAs 114 = .ok (.aload_n 0, 1) := by decide +kernel
theorem dX8_sipsAs_115 : decode cX8_sipsAs 115 = .ok (.invokevirtual 239, 3) := by decide +kernel
theorem dX8_sipsAs_118 : decode cX8_sipsAs 118 = .ok (.iadd, 1) := by decide +kernel
theorem dX8_sipsAs_119 : decode cX8_sipsAs 119 = .ok (.ireturn, 1) := by decide +kernel
theorem dX8_sipsAs_120 : decode cX8_sipsAs 120 = .ok (.aload_n 0, 1) := by decide +kernel
theorem dX8_sipsAs_121 : decode cX8_sipsAs 121 = .ok (.iload_n 1, 1) := by decide +kernel
theorem dX8_sipsAs_122 : decode cX8_sipsAs 122 = .ok (.invokestatic 172, 3) := by decide +kernel
theorem dX8_sipsAs_125 : decode cX8_sipsAs 125 = .ok (.iload_n 2, 1) := by decide +kernel
theorem dX8_sipsAs_126 : decode cX8_sipsAs 126 = .ok (.invokevirtual 236, 3) := by decide +kernel
theorem dX8_sipsAs_129 : decode cX8_sipsAs 129 = .ok (.ireturn, 1) := by decide +kernel
theorem dX8_sighsAs_0 : decode cX8_sighsAs 0 = .ok (.iload_n 1, 1) := by decide +kernel
theorem dX8_sighsAs_1 : decode cX8_sighsAs 1 = .ok (.tableswitch 95 0 4 #[35, 95, 95, 56, 74], 35) := by decide +kernel
theorem dX8_sighsAs_36 : decode cX8_sighsAs 36 = .ok (.aload_n 0, 1) := by decide +kernel
theorem dX8_sighsAs_37 : decode cX8_sighsAs 37 = .ok (.bipush 12, 2) := by decide +kernel
theorem dX8_sighsAs_39 : decode cX8_sighsAs 39 = .ok (.invokevirtual 226, 3) := by decide +kernel
theorem dX8_sighsAs_42 : decode cX8_sighsAs 42 = .ok (.aload_n 0, 1) := by decide +kernel
theorem dX8_sighsAs_43 : decode cX8_sighsAs 43 = .ok (.aload_n 0, 1) := by decide +kernel
theorem dX8_sighsAs_44 : decode cX8_sighsAs 44 = .ok (.invokevirtual 233, 3) := by decide +kernel
theorem dX8_sighsAs_47 : decode cX8_sighsAs 47 = .ok (.iload_n 2, 1) := by decide +kernel
theorem dX8_sighsAs_48 : decode cX8_sighsAs 48 = .ok (.invokevirtual 236, 3) := by decide +kernel
theorem dX8_sighsAs_51 : decode cX8_sighsAs 51 = .ok (.aload_n 0, 1) := by decide +kernel
theorem dX8_sighsAs_52 : decode cX8_sighsAs 52 = .ok (.invokevirtual 239, 3) := by decide +kernel
theorem dX8_sighsAs_55 : decode cX8_sighsAs 55 = .ok (.isub, 1) := by decide +kernel
theorem dX8_sighsAs_56 : decode cX8_sighsAs 56 = .ok (.ireturn, 1) := by decide +kernel
theorem dX8_sighsAs_57 : decode cX8_sighsAs 57 = .ok (.aload_n 0, 1) := by decide +kernel
theorem dX8_sighsAs_58 : decode cX8_sighsAs 58 = .ok (.bipush 40, 2) := by decide +kernel
theorem dX8_sighsAs_60 : decode cX8_sighsAs 60 = .ok (.invokevirtual 226, 3) := by decide +kernel
theorem dX8_sighsAs_63 : decode cX8_sighsAs 63 = .ok (.aload_n 0, 1) := by decide +kernel
theorem dX8_sighsAs_64 : decode cX8_sighsAs 64 = .ok (.iconst 3, 1) := by decide +kernel
theorem dX8_sighsAs_65 : decode cX8_sighsAs 65 = .ok (.invokestatic 172, 3) := by decide +kernel
theorem dX8_sighsAs_68 : decode cX8_sighsAs 68 = .ok (.iload_n 2, 1) := by decide +kernel
theorem dX8_sighsAs_69 : decode cX8_sighsAs 69 = .ok (.iconst 2, 1) := by decide +kernel
theorem dX8_sighsAs_70 : decode cX8_sighsAs 70 = .ok (.idiv, 1) := by decide +kernel
theorem dX8_sighsAs_71 : decode cX8_sighsAs 71 = .ok (.invokevirtual 242, 3) := by decide +kernel
theorem dX8_sighsAs_74 : decode cX8_sighsAs 74 = .ok (.ireturn, 1) := by decide +kernel
theorem dX8_sighsAs_75 : decode cX8_sighsAs 75 = .ok (.aload_n 0, 1) := by decide +kernel
theorem dX8_sighsAs_76 : decode cX8_sighsAs 76 = .ok (.bipush 51, 2) := by decide +kernel
theorem dX8_sighsAs_78 : decode cX8_sighsAs 78 = .ok (.invokevirtual 226, 3) := by decide +kernel
theorem dX8_sighsAs_81 : decode cX8_sighsAs 81 = .ok (.aload_n 0, 1) := by decide +kernel
theorem dX8_sighsAs_82 : decode cX8_sighsAs 82 = .ok (.iconst 4, 1) := by decide +kernel
theorem dX8_sighsAs_83 : decode cX8_sighsAs 83 = .ok (.invokestatic 172, 3) := by decide +kernel
theorem dX8_sighsAs_86 : decode cX8_sighsAs 86 = .ok (.iload_n 2, 1) := by decide +kernel
theorem dX8_sighsAs_87 : decode cX8_sighsAs 87 = .ok (.invokevirtual 242, 3) := by decide +kernel
theorem dX8_sighsAs_90 : decode cX8_sighsAs 90 = .ok (.aload_n 0, 1) := by decide +kernel
theorem dX8_sighsAs_91 : decode cX8_sighsAs 91 = .ok (.getfield 223, 3) := by decide +kernel
theorem dX8_sighsAs_94 : decode cX8_sighsAs 94 = .ok (.ixor, 1) := by decide +kernel
theorem dX8_sighsAs_95 : decode cX8_sighsAs 95 = .ok (.ireturn, 1) := by decide +kernel
theorem dX8_sighsAs_96 : decode cX8_sighsAs 96 = .ok (.aload_n 0, 1) := by decide +kernel
theorem dX8_sighsAs_97 : decode cX8_sighsAs 97 = .ok (.iload_n 1, 1) := by decide +kernel
theorem dX8_sighsAs_98 : decode cX8_sighsAs 98 = .ok (.invokestatic 172, 3) := by decide +kernel
theorem dX8_sighsAs_101 : decode cX8_sighsAs 101 = .ok (.iload_n 2, 1) := by decide +kernel
theorem dX8_sighsAs_102 : decode cX8_sighsAs 102 = .ok (.invokevirtual 242, 3) := by decide +kernel
theorem dX8_sighsAs_105 : decode cX8_sighsAs 105 = .ok (.ireturn, 1) := by decide +kernel
theorem dX8_partsAs_0 : decode cX8_partsAs 0 = .ok (.iload_n 1, 1) := by decide +kernel
theorem dX8_partsAs_1 : decode cX8_partsAs 1 = .ok (.lookupswitch 119 #[(0, 27), (1, 78)], 27) := by decide +kernel
theorem dX8_partsAs_28 : decode cX8_partsAs 28 = .ok (.aload_n 0, 1) := by decide +kernel
theorem dX8_partsAs_29 : decode cX8_partsAs 29 = .ok (.bipush 13, 2) := by decide +kernel
theorem dX8_partsAs_31 : decode cX8_partsAs 31 = .ok (.invokevirtual 226, 3) := by decide +kernel
theorem dX8_partsAs_34 : decode cX8_partsAs 34 = .ok (.aload_n 0, 1) := by decide +kernel
theorem dX8_partsAs_35 : decode cX8_partsAs 35 = .ok (.invokevirtual 239, 3) := by decide +kernel
theorem dX8_partsAs_38 : decode cX8_partsAs 38 = .ok (.aload_n 0, 1) := by decide +kernel
theorem dX8_partsAs_39 : decode cX8_partsAs 39 = .ok (.getfield 223, 3) := by decide +kernel
theorem dX8_partsAs_42 : decode cX8_partsAs 42 = .ok (.isub, 1) := by decide +kernel
theorem dX8_partsAs_43 : decode cX8_partsAs 43 = .ok (.istore_n 3, 1) := by decide +kernel
theorem dX8_partsAs_44 : decode cX8_partsAs 44 = .ok (.aload_n 0, 1) := by decide +kernel
theorem dX8_partsAs_45 : decode cX8_partsAs 45 = .ok (.iload_n 3, 1) := by decide +kernel
theorem dX8_partsAs_46 : decode cX8_partsAs 46 = .ok (.ifCond .ne 7, 3) := by decide +kernel
theorem dX8_partsAs_49 : decode cX8_partsAs 49 = .ok (.iconst 1, 1) := by decide +kernel
theorem dX8_partsAs_50 : decode cX8_partsAs 50 = .ok (.goto 4, 3) := by decide +kernel
theorem dX8_partsAs_53 : decode cX8_partsAs 53 = .ok (.iconst 0, 1) := by decide +kernel
theorem dX8_partsAs_54 : decode cX8_partsAs 54 = .ok (.putfield 245, 3) := by decide +kernel
theorem dX8_partsAs_57 : decode cX8_partsAs 57 = .ok (.iload_n 3, 1) := by decide +kernel
theorem dX8_partsAs_58 : decode cX8_partsAs 58 = .ok (.ifCond .ne 7, 3) := by decide +kernel
theorem dX8_partsAs_61 : decode cX8_partsAs 61 = .ok (.iconst 0, 1) := by decide +kernel
theorem dX8_partsAs_62 : decode cX8_partsAs 62 = .ok (.goto 16, 3) := by decide +kernel
theorem dX8_partsAs_65 : decode cX8_partsAs 65 = .ok (.iload_n 3, 1) := by decide +kernel
theorem dX8_partsAs_66 : decode cX8_partsAs 66 = .ok (.iconst (-1), 1) := by decide +kernel
theorem dX8_partsAs_67 : decode cX8_partsAs 67 = .ok (.if_icmp .ne 8, 3) := by decide +kernel
theorem dX8_partsAs_70 : decode cX8_partsAs 70 = .ok (.iload_n 2, 1) := by decide +kernel
theorem dX8_partsAs_71 : decode cX8_partsAs 71 = .ok (.ineg, 1) := by decide +kernel
theorem dX8_partsAs_72 : decode cX8_partsAs 72 = .ok (.goto 6, 3) := by decide +kernel
theorem dX8_partsAs_75 : decode cX8_partsAs 75 = .ok (.iload_n 2, 1) := by decide +kernel
theorem dX8_partsAs_76 : decode cX8_partsAs 76 = .ok (.iload_n 3, 1) := by decide +kernel
theorem dX8_partsAs_77 : decode cX8_partsAs 77 = .ok (.idiv, 1) := by decide +kernel
theorem dX8_partsAs_78 : decode cX8_partsAs 78 = .ok (.ireturn, 1) := by decide +kernel
theorem dX8_partsAs_79 : decode cX8_partsAs 79 = .ok (.aload_n 0, 1) := by decide +kernel
theorem dX8_partsAs_80 : decode cX8_partsAs 80 = .ok (.bipush 21, 2) := by decide +kernel
theorem dX8_partsAs_82 : decode cX8_partsAs 82 = .ok (.invokevirtual 226, 3) := by decide +kernel
theorem dX8_partsAs_85 : decode cX8_partsAs 85 = .ok (.aload_n 0, 1) := by decide +kernel
theorem dX8_partsAs_86 : decode cX8_partsAs 86 = .ok (.iconst 1, 1) := by decide +kernel
theorem dX8_partsAs_87 : decode cX8_partsAs 87 = .ok (.invokestatic 172, 3) := by decide +kernel
theorem dX8_partsAs_90 : decode cX8_partsAs 90 = .ok (.iload_n 2, 1) := by decide +kernel
theorem dX8_partsAs_91 : decode cX8_partsAs 91 = .ok (.invokevirtual 249, 3) := by decide +kernel
theorem dX8_partsAs_94 : decode cX8_partsAs 94 = .ok (.istore 4, 2) := by decide +kernel
theorem dX8_partsAs_96 : decode cX8_partsAs 96 = .ok (.aload_n 0, 1) := by decide +kernel
theorem dX8_partsAs_97 : decode cX8_partsAs 97 = .ok (.getfield 245, 3) := by decide +kernel
theorem dX8_partsAs_100 : decode cX8_partsAs 100 = .ok (.ifCond .eq 7, 3) := by decide +kernel
theorem dX8_partsAs_103 : decode cX8_partsAs 103 = .ok (.iconst 0, 1) := by decide +kernel
theorem dX8_partsAs_104 : decode cX8_partsAs 104 = .ok (.goto 15, 3) := by decide +kernel
theorem dX8_partsAs_107 : decode cX8_partsAs 107 = .ok (.iload 4, 2) := by decide +kernel
theorem dX8_partsAs_109 : decode cX8_partsAs 109 = .ok (.aload_n 0, 1) := by decide +kernel
theorem dX8_partsAs_110 : decode cX8_partsAs 110 = .ok (.aload_n 0, 1) := by decide +kernel
theorem dX8_partsAs_111 : decode cX8_partsAs 111 = .ok (.invokevirtual 233, 3) := by decide +kernel
theorem dX8_partsAs_114 : decode cX8_partsAs 114 = .ok (.iconst 1, 1) := by decide +kernel
theorem dX8_partsAs_115 : decode cX8_partsAs 115 = .ok (.invokevirtual 236, 3) := by decide +kernel
theorem dX8_partsAs_118 : decode cX8_partsAs 118 = .ok (.iadd, 1) := by decide +kernel
theorem dX8_partsAs_119 : decode cX8_partsAs 119 = .ok (.ireturn, 1) := by decide +kernel
theorem dX8_partsAs_120 : decode cX8_partsAs 120 = .ok (.aload_n 0, 1) := by decide +kernel
theorem dX8_partsAs_121 : decode cX8_partsAs 121 = .ok (.iload_n 1, 1) := by decide +kernel
theorem dX8_partsAs_122 : decode cX8_partsAs 122 = .ok (.invokestatic 172, 3) := by decide +kernel
theorem dX8_partsAs_125 : decode cX8_partsAs 125 = .ok (.iload_n 2, 1) := by decide +kernel
theorem dX8_partsAs_126 : decode cX8_partsAs 126 = .ok (.invokevirtual 249, 3) := by decide +kernel
theorem dX8_partsAs_129 : decode cX8_partsAs 129 = .ok (.ireturn, 1) := by decide +kernel
theorem dX8_voice_0 : decode cX8_voice 0 = .ok (.aload_n 0, 1) := by decide +kernel
theorem dX8_voice_1 : decode cX8_voice 1 = .ok (.iload_n 1, 1) := by decide +kernel
theorem dX8_voice_2 : decode cX8_voice 2 = .ok (.invokevirtual 166, 3) := by decide +kernel
theorem dX8_voice_5 : decode cX8_voice 5 = .ok (.ifCond .eq 12, 3) := by decide +kernel
theorem dX8_voice_8 : decode cX8_voice 8 = .ok (.iload_n 2, 1) := by decide +kernel
theorem dX8_voice_9 : decode cX8_voice 9 = .ok (.iconst 0, 1) := by decide +kernel
theorem dX8_voice_10 : decode cX8_voice 10 = .ok (.iconst 3, 1) := by decide +kernel
theorem dX8_voice_11 : decode cX8_voice 11 = .ok (.invokestatic 59, 3) := by decide +kernel
theorem dX8_voice_14 : decode cX8_voice 14 = .ok (.ifCond .ne 9, 3) := by decide +kernel
theorem dX8_voice_17 : decode cX8_voice 17 = .ok (.aload_n 0, 1) := by decide +kernel
theorem dX8_voice_18 : decode cX8_voice 18 = .ok (.iconst 1, 1) := by decide +kernel
theorem dX8_voice_19 : decode cX8_voice 19 = .ok (.invokevirtual 63, 3) := by decide +kernel
theorem dX8_voice_22 : decode cX8_voice 22 = .ok (.ireturn, 1) := by decide +kernel
theorem dX8_voice_23 : decode cX8_voice 23 = .ok (.aload_n 0, 1) := by decide +kernel
theorem dX8_voice_24 : decode cX8_voice 24 = .ok (.iconst 0, 1) := by decide +kernel
theorem dX8_voice_25 : decode cX8_voice 25 = .ok (.putfield 220, 3) := by decide +kernel
theorem dX8_voice_28 : decode cX8_voice 28 = .ok (.aload_n 0, 1) := by decide +kernel
theorem dX8_voice_29 : decode cX8_voice 29 = .ok (.iload_n 1, 1) := by decide +kernel
theorem dX8_voice_30 : decode cX8_voice 30 = .ok (.putfield 223, 3) := by decide +kernel
theorem dX8_voice_33 : decode cX8_voice 33 = .ok (.aload_n 0, 1) := by decide +kernel
theorem dX8_voice_34 : decode cX8_voice 34 = .ok (.iconst 0, 1) := by decide +kernel
theorem dX8_voice_35 : decode cX8_voice 35 = .ok (.putfield 245, 3) := by decide +kernel
theorem dX8_voice_38 : decode cX8_voice 38 = .ok (.aload_n 0, 1) := by decide +kernel
theorem dX8_voice_39 : decode cX8_voice 39 = .ok (.invokevirtual 233, 3) := by decide +kernel
theorem dX8_voice_42 : decode cX8_voice 42 = .ok (.istore 4, 2) := by decide +kernel
theorem dX8_voice_44 : decode cX8_voice 44 = .ok (.iload_n 2, 1) := by decide +kernel
theorem dX8_voice_45 : decode cX8_voice 45 = .ok (.ifCond .ne 13, 3) := by decide +kernel
theorem dX8_voice_48 : decode cX8_voice 48 = .ok (.aload_n 0, 1) := by decide +kernel
theorem dX8_voice_49 : decode cX8_voice 49 = .ok (.iload 4, 2) := by decide +kernel
theorem dX8_voice_51 : decode cX8_voice 51 = .ok (.iload_n 3, 1) := by decide +kernel
theorem dX8_voice_52 : decode cX8_voice 52 = .ok (.invokevirtual 230, 3) := by decide +kernel
theorem dX8_voice_55 : decode cX8_voice 55 = .ok (.goto 40, 3) := by decide +kernel
theorem dX8_voice_58 : decode cX8_voice 58 = .ok (.iload_n 2, 1) := by decide +kernel
theorem dX8_voice_59 : decode cX8_voice 59 = .ok (.iconst 1, 1) := by decide +kernel
theorem dX8_voice_60 : decode cX8_voice 60 = .ok (.if_icmp .ne 13, 3) := by decide +kernel
theorem dX8_voice_63 : decode cX8_voice 63 = .ok (.aload_n 0, 1) := by decide +kernel
theorem dX8_voice_64 : decode cX8_voice 64 = .ok (.iload 4, 2) := by decide +kernel
theorem dX8_voice_66 : decode cX8_voice 66 = .ok (.iload_n 3, 1) := by decide +kernel
theorem dX8_voice_67 : decode cX8_voice 67 = .ok (.invokevirtual 236, 3) := by decide +kernel
theorem dX8_voice_70 : decode cX8_voice 70 = .ok (.goto 25, 3) := by decide +kernel
theorem dX8_voice_73 : decode cX8_voice 73 = .ok (.iload_n 2, 1) := by decide +kernel
theorem dX8_voice_74 : decode cX8_voice 74 = .ok (.iconst 2, 1) := by decide +kernel
theorem dX8_voice_75 : decode cX8_voice 75 = .ok (.if_icmp .ne 13, 3) := by decide +kernel
theorem dX8_voice_78 : decode cX8_voice 78 = .ok (.aload_n 0, 1) := by decide +kernel
theorem dX8_voice_79 : decode cX8_voice 79 = .ok (.iload 4, 2) := by decide +kernel
theorem dX8_voice_81 : decode cX8_voice 81 = .ok (.iload_n 3, 1) := by decide +kernel
theorem dX8_voice_82 : decode cX8_voice 82 = .ok (.invokevirtual 242, 3) := by decide +kernel
theorem dX8_voice_85 : decode cX8_voice 85 = .ok (.goto 10, 3) := by decide +kernel
theorem dX8_voice_88 : decode cX8_voice 88 = .ok (.aload_n 0, 1) := by decide +kernel
theorem dX8_voice_89 : decode cX8_voice 89 = .ok (.iload 4, 2) := by decide +kernel
theorem dX8_voice_91 : decode cX8_voice 91 = .ok (.iload_n 3, 1) := by decide +kernel
theorem dX8_voice_92 : decode cX8_voice 92 = .ok (.invokevirtual 249, 3) := by decide +kernel
theorem dX8_voice_95 : decode cX8_voice 95 = .ok (.istore 5, 2) := by decide +kernel
theorem dX8_voice_97 : decode cX8_voice 97 = .ok (.aload_n 0, 1) := by decide +kernel
theorem dX8_voice_98 : decode cX8_voice 98 = .ok (.getfield 245, 3) := by decide +kernel
theorem dX8_voice_101 : decode cX8_voice 101 = .ok (.ifCond .eq 12, 3) := by decide +kernel
theorem dX8_voice_104 : decode cX8_voice 104 = .ok (.aload_n 0, 1) := by decide +kernel
theorem dX8_voice_105 : decode cX8_voice 105 = .ok (.bipush 6, 2) := by decide +kernel
theorem dX8_voice_107 : decode cX8_voice 107 = .ok (.invokevirtual 63, 3) := by decide +kernel
theorem dX8_voice_110 : decode cX8_voice 110 = .ok (.goto 5, 3) := by decide +kernel
theorem dX8_voice_113 : decode cX8_voice 113 = .ok (.iload 5, 2) := by decide +kernel
theorem dX8_voice_115 : decode cX8_voice 115 = .ok (.ireturn, 1) := by decide +kernel
theorem dX8_body_0 : decode cX8_body 0 = .ok (.iload_n 1, 1) := by decide +kernel
theorem dX8_body_1 : decode cX8_body 1 = .ok (.iconst 0, 1) := by decide +kernel
theorem dX8_body_2 : decode cX8_body 2 = .ok (.aload_n 0, 1) := by decide +kernel
theorem dX8_body_3 : decode cX8_body 3 = .ok (.getfield 220, 3) := by decide +kernel
theorem dX8_body_6 : decode cX8_body 6 = .ok (.iconst 1, 1) := by decide +kernel
theorem dX8_body_7 : decode cX8_body 7 = .ok (.isub, 1) := by decide +kernel
theorem dX8_body_8 : decode cX8_body 8 = .ok (.invokestatic 59, 3) := by decide +kernel
theorem dX8_body_11 : decode cX8_body 11 = .ok (.ifCond .eq 12, 3) := by decide +kernel
theorem dX8_body_14 : decode cX8_body 14 = .ok (.aload_n 0, 1) := by decide +kernel
theorem dX8_body_15 : decode cX8_body 15 = .ok (.getfield 43, 3) := by decide +kernel
theorem dX8_body_18 : decode cX8_body 18 = .ok (.iload_n 1, 1) := by decide +kernel
theorem dX8_body_19 : decode cX8_body 19 = .ok (.iaload, 1) := by decide +kernel
theorem dX8_body_20 : decode cX8_body 20 = .ok (.goto 8, 3) := by decide +kernel
theorem dX8_body_23 : decode cX8_body 23 = .ok (.aload_n 0, 1) := by decide +kernel
theorem dX8_body_24 : decode cX8_body 24 = .ok (.iconst 2, 1) := by decide +kernel
theorem dX8_body_25 : decode cX8_body 25 = .ok (.invokevirtual 63, 3) := by decide +kernel
theorem dX8_body_28 : decode cX8_body 28 = .ok (.ireturn, 1) := by decide +kernel
theorem dX8_isSheet_0 : decode cX8_isSheet 0 = .ok (.iload_n 0, 1) := by decide +kernel
theorem dX8_isSheet_1 : decode cX8_isSheet 1 = .ok (.iconst 0, 1) := by decide +kernel
theorem dX8_isSheet_2 : decode cX8_isSheet 2 = .ok (.iconst 3, 1) := by decide +kernel
theorem dX8_isSheet_3 : decode cX8_isSheet 3 = .ok (.invokestatic 59, 3) := by decide +kernel
theorem dX8_isSheet_6 : decode cX8_isSheet 6 = .ok (.ireturn, 1) := by decide +kernel
theorem dX8_sheet_0 : decode cX8_sheet 0 = .ok (.iload_n 1, 1) := by decide +kernel
theorem dX8_sheet_1 : decode cX8_sheet 1 = .ok (.invokestatic 252, 3) := by decide +kernel
theorem dX8_sheet_4 : decode cX8_sheet 4 = .ok (.ifCond .eq 25, 3) := by decide +kernel
theorem dX8_sheet_7 : decode cX8_sheet 7 = .ok (.iload_n 2, 1) := by decide +kernel
theorem dX8_sheet_8 : decode cX8_sheet 8 = .ok (.ifCond .eq 27, 3) := by decide +kernel
theorem dX8_sheet_11 : decode cX8_sheet 11 = .ok (.iload_n 2, 1) := by decide +kernel
theorem dX8_sheet_12 : decode cX8_sheet 12 = .ok (.bipush 8, 2) := by decide +kernel
theorem dX8_sheet_14 : decode cX8_sheet 14 = .ok (.if_icmp .eq 21, 3) := by decide +kernel
theorem dX8_sheet_17 : decode cX8_sheet 17 = .ok (.iload_n 2, 1) := by decide +kernel
theorem dX8_sheet_18 : decode cX8_sheet 18 = .ok (.bipush 16, 2) := by decide +kernel
theorem dX8_sheet_20 : decode cX8_sheet 20 = .ok (.if_icmp .eq 15, 3) := by decide +kernel
theorem dX8_sheet_23 : decode cX8_sheet 23 = .ok (.iload_n 2, 1) := by decide +kernel
theorem dX8_sheet_24 : decode cX8_sheet 24 = .ok (.bipush 32, 2) := by decide +kernel
theorem dX8_sheet_26 : decode cX8_sheet 26 = .ok (.if_icmp .eq 9, 3) := by decide +kernel
theorem dX8_sheet_29 : decode cX8_sheet 29 = .ok (.aload_n 0, 1) := by decide +kernel
theorem dX8_sheet_30 : decode cX8_sheet 30 = .ok (.iconst 1, 1) := by decide +kernel
theorem dX8_sheet_31 : decode cX8_sheet 31 = .ok (.invokevirtual 63, 3) := by decide +kernel
theorem dX8_sheet_34 : decode cX8_sheet 34 = .ok (.ireturn, 1) := by decide +kernel
theorem dX8_sheet_35 : decode cX8_sheet 35 = .ok (.iload_n 2, 1) := by decide +kernel
theorem dX8_sheet_36 : decode cX8_sheet 36 = .ok (.ifCond .eq 13, 3) := by decide +kernel
theorem dX8_sheet_39 : decode cX8_sheet 39 = .ok (.iload_n 3, 1) := by decide +kernel
theorem dX8_sheet_40 : decode cX8_sheet 40 = .ok (.ifCond .ge 9, 3) := by decide +kernel
theorem dX8_sheet_43 : decode cX8_sheet 43 = .ok (.aload_n 0, 1) := by decide +kernel
theorem dX8_sheet_44 : decode cX8_sheet 44 = .ok (.iconst 3, 1) := by decide +kernel
theorem dX8_sheet_45 : decode cX8_sheet 45 = .ok (.invokevirtual 63, 3) := by decide +kernel
theorem dX8_sheet_48 : decode cX8_sheet 48 = .ok (.ireturn, 1) := by decide +kernel
theorem dX8_sheet_49 : decode cX8_sheet 49 = .ok (.iload_n 2, 1) := by decide +kernel
theorem dX8_sheet_50 : decode cX8_sheet 50 = .ok (.ifCond .eq 15, 3) := by decide +kernel
theorem dX8_sheet_53 : decode cX8_sheet 53 = .ok (.iload_n 3, 1) := by decide +kernel
theorem dX8_sheet_54 : decode cX8_sheet 54 = .ok (.bipush 24, 2) := by decide +kernel
theorem dX8_sheet_56 : decode cX8_sheet 56 = .ok (.if_icmp .le 9, 3) := by decide +kernel
theorem dX8_sheet_59 : decode cX8_sheet 59 = .ok (.aload_n 0, 1) := by decide +kernel
theorem dX8_sheet_60 : decode cX8_sheet 60 = .ok (.iconst 1, 1) := by decide +kernel
theorem dX8_sheet_61 : decode cX8_sheet 61 = .ok (.invokevirtual 63, 3) := by decide +kernel
theorem dX8_sheet_64 : decode cX8_sheet 64 = .ok (.ireturn, 1) := by decide +kernel
theorem dX8_sheet_65 : decode cX8_sheet 65 = .ok (.aload_n 0, 1) := by decide +kernel
theorem dX8_sheet_66 : decode cX8_sheet 66 = .ok (.getfield 46, 3) := by decide +kernel
theorem dX8_sheet_69 : decode cX8_sheet 69 = .ok (.iload_n 1, 1) := by decide +kernel
theorem dX8_sheet_70 : decode cX8_sheet 70 = .ok (.iload_n 2, 1) := by decide +kernel
theorem dX8_sheet_71 : decode cX8_sheet 71 = .ok (.iastore, 1) := by decide +kernel
theorem dX8_sheet_72 : decode cX8_sheet 72 = .ok (.aload_n 0, 1) := by decide +kernel
theorem dX8_sheet_73 : decode cX8_sheet 73 = .ok (.getfield 49, 3) := by decide +kernel
theorem dX8_sheet_76 : decode cX8_sheet 76 = .ok (.iload_n 1, 1) := by decide +kernel
theorem dX8_sheet_77 : decode cX8_sheet 77 = .ok (.iload_n 2, 1) := by decide +kernel
theorem dX8_sheet_78 : decode cX8_sheet 78 = .ok (.ifCond .ne 7, 3) := by decide +kernel
theorem dX8_sheet_81 : decode cX8_sheet 81 = .ok (.iconst 0, 1) := by decide +kernel
theorem dX8_sheet_82 : decode cX8_sheet 82 = .ok (.goto 4, 3) := by decide +kernel
theorem dX8_sheet_85 : decode cX8_sheet 85 = .ok (.iload_n 3, 1) := by decide +kernel
theorem dX8_sheet_86 : decode cX8_sheet 86 = .ok (.iastore, 1) := by decide +kernel
theorem dX8_sheet_87 : decode cX8_sheet 87 = .ok (.iconst 0, 1) := by decide +kernel
theorem dX8_sheet_88 : decode cX8_sheet 88 = .ok (.istore 4, 2) := by decide +kernel
theorem dX8_sheet_90 : decode cX8_sheet 90 = .ok (.iload 4, 2) := by decide +kernel
theorem dX8_sheet_92 : decode cX8_sheet 92 = .ok (.bipush 24, 2) := by decide +kernel
theorem dX8_sheet_94 : decode cX8_sheet 94 = .ok (.if_icmp .ge 22, 3) := by decide +kernel
theorem dX8_sheet_97 : decode cX8_sheet 97 = .ok (.aload_n 0, 1) := by decide +kernel
theorem dX8_sheet_98 : decode cX8_sheet 98 = .ok (.getfield 52, 3) := by decide +kernel
theorem dX8_sheet_101 : decode cX8_sheet 101 = .ok (.bipush 24, 2) := by decide +kernel
theorem dX8_sheet_103 : decode cX8_sheet 103 = .ok (.iload_n 1, 1) := by decide +kernel
theorem dX8_sheet_104 : decode cX8_sheet 104 = .ok (.imul, 1) := by decide +kernel
theorem dX8_sheet_105 : decode cX8_sheet 105 = .ok (.iload 4, 2) := by decide +kernel
theorem dX8_sheet_107 : decode cX8_sheet 107 = .ok (.iadd, 1) := by decide +kernel
theorem dX8_sheet_108 : decode cX8_sheet 108 = .ok (.iconst 0, 1) := by decide +kernel
theorem dX8_sheet_109 : decode cX8_sheet 109 = .ok (.iastore, 1) := by decide +kernel
theorem dX8_sheet_110 : decode cX8_sheet 110 = .ok (.iinc 4 1, 3) := by decide +kernel
theorem dX8_sheet_113 : decode cX8_sheet 113 = .ok (.goto (-23), 3) := by decide +kernel
theorem dX8_sheet_116 : decode cX8_sheet 116 = .ok (.iconst 1, 1) := by decide +kernel
theorem dX8_sheet_117 : decode cX8_sheet 117 = .ok (.ireturn, 1) := by decide +kernel
theorem dX8_put_0 : decode cX8_put 0 = .ok (.iload_n 1, 1) := by decide +kernel
theorem dX8_put_1 : decode cX8_put 1 = .ok (.invokestatic 252, 3) := by decide +kernel
theorem dX8_put_4 : decode cX8_put 4 = .ok (.ifCond .ne 9, 3) := by decide +kernel
theorem dX8_put_7 : decode cX8_put 7 = .ok (.aload_n 0, 1) := by decide +kernel
theorem dX8_put_8 : decode cX8_put 8 = .ok (.iconst 1, 1) := by decide +kernel
theorem dX8_put_9 : decode cX8_put 9 = .ok (.invokevirtual 63, 3) := by decide +kernel
theorem dX8_put_12 : decode cX8_put 12 = .ok (.ireturn, 1) := by decide +kernel
theorem dX8_put_13 : decode cX8_put 13 = .ok (.aload_n 0, 1) := by decide +kernel
theorem dX8_put_14 : decode cX8_put 14 = .ok (.getfield 46, 3) := by decide +kernel
theorem dX8_put_17 : decode cX8_put 17 = .ok (.iload_n 1, 1) := by decide +kernel
theorem dX8_put_18 : decode cX8_put 18 = .ok (.iaload, 1) := by decide +kernel
theorem dX8_put_19 : decode cX8_put 19 = .ok (.ifCond .ne 9, 3) := by decide +kernel
theorem dX8_put_22 : decode cX8_put 22 = .ok (.aload_n 0, 1) := by decide +kernel
theorem dX8_put_23 : decode cX8_put 23 = .ok (.iconst 2, 1) := by decide +kernel
theorem dX8_put_24 : decode cX8_put 24 = .ok (.invokevirtual 63, 3) := by decide +kernel
theorem dX8_put_27 : decode cX8_put 27 = .ok (.ireturn, 1) := by decide +kernel
theorem dX8_put_28 : decode cX8_put 28 = .ok (.iload_n 2, 1) := by decide +kernel
theorem dX8_put_29 : decode cX8_put 29 = .ok (.iconst 0, 1) := by decide +kernel
theorem dX8_put_30 : decode cX8_put 30 = .ok (.aload_n 0, 1) := by decide +kernel
theorem dX8_put_31 : decode cX8_put 31 = .ok (.getfield 49, 3) := by decide +kernel
theorem dX8_put_34 : decode cX8_put 34 = .ok (.iload_n 1, 1) := by decide +kernel
theorem dX8_put_35 : decode cX8_put 35 = .ok (.iaload, 1) := by decide +kernel
theorem dX8_put_36 : decode cX8_put 36 = .ok (.iconst 1, 1) := by decide +kernel
theorem dX8_put_37 : decode cX8_put 37 = .ok (.isub, 1) := by decide +kernel
theorem dX8_put_38 : decode cX8_put 38 = .ok (.invokestatic 59, 3) := by decide +kernel
theorem dX8_put_41 : decode cX8_put 41 = .ok (.ifCond .ne 9, 3) := by decide +kernel
theorem dX8_put_44 : decode cX8_put 44 = .ok (.aload_n 0, 1) := by decide +kernel
theorem dX8_put_45 : decode cX8_put 45 = .ok (.iconst 1, 1) := by decide +kernel
theorem dX8_put_46 : decode cX8_put 46 = .ok (.invokevirtual 63, 3) := by decide +kernel
theorem dX8_put_49 : decode cX8_put 49 = .ok (.ireturn, 1) := by decide +kernel
theorem dX8_put_50 : decode cX8_put 50 = .ok (.bipush 32, 2) := by decide +kernel
theorem dX8_put_52 : decode cX8_put 52 = .ok (.aload_n 0, 1) := by decide +kernel
theorem dX8_put_53 : decode cX8_put 53 = .ok (.getfield 46, 3) := by decide +kernel
theorem dX8_put_56 : decode cX8_put 56 = .ok (.iload_n 1, 1) := by decide +kernel
theorem dX8_put_57 : decode cX8_put 57 = .ok (.iaload, 1) := by decide +kernel
theorem dX8_put_58 : decode cX8_put 58 = .ok (.isub, 1) := by decide +kernel
theorem dX8_put_59 : decode cX8_put 59 = .ok (.istore 4, 2) := by decide +kernel
theorem dX8_put_61 : decode cX8_put 61 = .ok (.aload_n 0, 1) := by decide +kernel
theorem dX8_put_62 : decode cX8_put 62 = .ok (.getfield 52, 3) := by decide +kernel
theorem dX8_put_65 : decode cX8_put 65 = .ok (.bipush 24, 2) := by decide +kernel
theorem dX8_put_67 : decode cX8_put 67 = .ok (.iload_n 1, 1) := by decide +kernel
theorem dX8_put_68 : decode cX8_put 68 = .ok (.imul, 1) := by decide +kernel
theorem dX8_put_69 : decode cX8_put 69 = .ok (.iload_n 2, 1) := by decide +kernel
theorem dX8_put_70 : decode cX8_put 70 = .ok (.iadd, 1) := by decide +kernel
theorem dX8_put_71 : decode cX8_put 71 = .ok (.iload_n 3, 1) := by decide +kernel
theorem dX8_put_72 : decode cX8_put 72 = .ok (.iload 4, 2) := by decide +kernel
theorem dX8_put_74 : decode cX8_put 74 = .ok (.ishl, 1) := by decide +kernel
theorem dX8_put_75 : decode cX8_put 75 = .ok (.iload 4, 2) := by decide +kernel
theorem dX8_put_77 : decode cX8_put 77 = .ok (.ishr, 1) := by decide +kernel
theorem dX8_put_78 : decode cX8_put 78 = .ok (.iastore, 1) := by decide +kernel
theorem dX8_put_79 : decode cX8_put 79 = .ok (.iconst 1, 1) := by decide +kernel
theorem dX8_put_80 : decode cX8_put 80 = .ok (.ireturn, 1) := by decide +kernel
theorem dX8_move_0 : decode cX8_move 0 = .ok (.iload_n 1, 1) := by decide +kernel
theorem dX8_move_1 : decode cX8_move 1 = .ok (.invokestatic 252, 3) := by decide +kernel
theorem dX8_move_4 : decode cX8_move 4 = .ok (.ifCond .eq 10, 3) := by decide +kernel
theorem dX8_move_7 : decode cX8_move 7 = .ok (.iload_n 3, 1) := by decide +kernel
theorem dX8_move_8 : decode cX8_move 8 = .ok (.invokestatic 252, 3) := by decide +kernel
theorem dX8_move_11 : decode cX8_move 11 = .ok (.ifCond .ne 9, 3) := by decide +kernel
theorem dX8_move_14 : decode cX8_move 14 = .ok (.aload_n 0, 1) := by decide +kernel
theorem dX8_move_15 : decode cX8_move 15 = .ok (.iconst 1, 1) := by decide +kernel
theorem dX8_move_16 : decode cX8_move 16 = .ok (.invokevirtual 63, 3) := by decide +kernel
theorem dX8_move_19 : decode cX8_move 19 = .ok (.ireturn, 1) := by decide +kernel
theorem dX8_move_20 : decode cX8_move 20 = .ok (.aload_n 0, 1) := by decide +kernel
theorem dX8_move_21 : decode cX8_move 21 = .ok (.getfield 46, 3) := by decide +kernel
theorem dX8_move_24 : decode cX8_move 24 = .ok (.iload_n 1, 1) := by decide +kernel
theorem dX8_move_25 : decode cX8_move 25 = .ok (.iaload, 1) := by decide +kernel
theorem dX8_move_26 : decode cX8_move 26 = .ok (.ifCond .eq 12, 3) := by decide +kernel
theorem dX8_move_29 : decode cX8_move 29 = .ok (.aload_n 0, 1) := by decide +kernel
theorem dX8_move_30 : decode cX8_move 30 = .ok (.getfield 46, 3) := by decide +kernel
theorem dX8_move_33 : decode cX8_move 33 = .ok (.iload_n 3, 1) := by decide +kernel
theorem dX8_move_34 : decode cX8_move 34 = .ok (.iaload, 1) := by decide +kernel
theorem dX8_move_35 : decode cX8_move 35 = .ok (.ifCond .ne 9, 3) := by decide +kernel
theorem dX8_move_38 : decode cX8_move 38 = .ok (.aload_n 0, 1) := by decide +kernel
theorem dX8_move_39 : decode cX8_move 39 = .ok (.iconst 2, 1) := by decide +kernel
theorem dX8_move_40 : decode cX8_move 40 = .ok (.invokevirtual 63, 3) := by decide +kernel
theorem dX8_move_43 : decode cX8_move 43 = .ok (.ireturn, 1) := by decide +kernel
theorem dX8_move_44 : decode cX8_move 44 = .ok (.aload_n 0, 1) := by decide +kernel
theorem dX8_move_45 : decode cX8_move 45 = .ok (.getfield 46, 3) := by decide +kernel
theorem dX8_move_48 : decode cX8_move 48 = .ok (.iload_n 1, 1) := by decide +kernel
theorem dX8_move_49 : decode cX8_move 49 = .ok (.iaload, 1) := by decide +kernel
theorem dX8_move_50 : decode cX8_move 50 = .ok (.aload_n 0, 1) := by decide +kernel
theorem dX8_move_51 : decode cX8_move 51 = .ok (.getfield 46, 3) := by decide +kernel
theorem dX8_move_54 : decode cX8_move 54 = .ok (.iload_n 3, 1) := by decide +kernel
theorem dX8_move_55 : decode cX8_move 55 = .ok (.iaload, 1) := by decide +kernel
theorem dX8_move_56 : decode cX8_move 56 = .ok (.if_icmp .eq 9, 3) := by decide +kernel
theorem dX8_move_59 : decode cX8_move 59 = .ok (.aload_n 0, 1) := by decide +kernel
theorem dX8_move_60 : decode cX8_move 60 = .ok (.iconst 5, 1) := by decide +kernel
theorem dX8_move_61 : decode cX8_move 61 = .ok (.invokevirtual 63, 3) := by decide +kernel
theorem dX8_move_64 : decode cX8_move 64 = .ok (.ireturn, 1) := by decide +kernel
theorem dX8_move_65 : decode cX8_move 65 = .ok (.iload 5, 2) := by decide +kernel
theorem dX8_move_67 : decode cX8_move 67 = .ok (.ifCond .lt 39, 3) := by decide +kernel
theorem dX8_move_70 : decode cX8_move 70 = .ok (.iload_n 2, 1) := by decide +kernel
theorem dX8_move_71 : decode cX8_move 71 = .ok (.ifCond .lt 35, 3) := by decide +kernel
theorem dX8_move_74 : decode cX8_move 74 = .ok (.iload 4, 2) := by decide +kernel
theorem dX8_move_76 : decode cX8_move 76 = .ok (.ifCond .lt 30, 3) := by decide +kernel
theorem dX8_move_79 : decode cX8_move 79 = .ok (.iload_n 2, 1) := by decide +kernel
theorem dX8_move_80 : decode cX8_move 80 = .ok (.aload_n 0, 1) := by decide +kernel
theorem dX8_move_81 : decode cX8_move 81 = .ok (.getfield 49, 3) := by decide +kernel
theorem dX8_move_84 : decode cX8_move 84 = .ok (.iload_n 1, 1) := by decide +kernel
theorem dX8_move_85 : decode cX8_move 85 = .ok (.iaload, 1) := by decide +kernel
theorem dX8_move_86 : decode cX8_move 86 = .ok (.iload 5, 2) := by decide +kernel
theorem dX8_move_88 : decode cX8_move 88 = .ok (.isub, 1) := by decide +kernel
theorem dX8_move_89 : decode cX8_move 89 = .ok (.if_icmp .gt 17, 3) := by decide +kernel
theorem dX8_move_92 : decode cX8_move 92 = .ok (.iload 4, 2) := by decide +kernel
theorem dX8_move_94 : decode cX8_move 94 = .ok (.aload_n 0, 1) := by decide +kernel
theorem dX8_move_95 : decode cX8_move 95 = .ok (.getfield 49, 3) := by decide +kernel
theorem dX8_move_98 : decode cX8_move 98 = .ok (.iload_n 3, 1) := by decide +kernel
theorem dX8_move_99 : decode cX8_move 99 = .ok (.iaload, 1) := by decide +kernel
theorem dX8_move_100 : decode cX8_move 100 = .ok (.iload 5, 2) := by decide +kernel
theorem dX8_move_102 : decode cX8_move 102 = .ok (.isub, 1) := by decide +kernel
theorem dX8_move_103 : decode cX8_move 103 = .ok (.if_icmp .le 9, 3) := by decide +kernel
theorem dX8_move_106 : decode cX8_move 106 = .ok (.aload_n 0, 1) := by decide +kernel
theorem dX8_move_107 : decode cX8_move 107 = .ok (.iconst 1, 1) := by decide +kernel
theorem dX8_move_108 : decode cX8_move 108 = .ok (.invokevirtual 63, 3) := by decide +kernel
theorem dX8_move_111 : decode cX8_move 111 = .ok (.ireturn, 1) := by decide +kernel
theorem dX8_move_112 : decode cX8_move 112 = .ok (.iconst 0, 1) := by decide +kernel
theorem dX8_move_113 : decode cX8_move 113 = .ok (.istore 6, 2) := by decide +kernel
theorem dX8_move_115 : decode cX8_move 115 = .ok (.iload 6, 2) := by decide +kernel
theorem dX8_move_117 : decode cX8_move 117 = .ok (.iload 5, 2) := by decide +kernel
theorem dX8_move_119 : decode cX8_move 119 = .ok (.if_icmp .ge 30, 3) := by decide +kernel
theorem dX8_move_122 : decode cX8_move 122 = .ok (.aload_n 0, 1) := by decide +kernel
theorem dX8_move_123 : decode cX8_move 123 = .ok (.getfield 55, 3) := by decide +kernel
theorem dX8_move_126 : decode cX8_move 126 = .ok (.iload 6, 2) := by decide +kernel
theorem dX8_move_128 : decode cX8_move 128 = .ok (.aload_n 0, 1) := by decide +kernel
theorem dX8_move_129 : decode cX8_move 129 = .ok (.getfield 52, 3) := by decide +kernel
theorem dX8_move_132 : decode cX8_move 132 = .ok (.bipush 24, 2) := by decide +kernel
theorem dX8_move_134 : decode cX8_move 134 = .ok (.iload_n 1, 1) := by decide +kernel
theorem dX8_move_135 : decode cX8_move 135 = .ok (.imul, 1) := by decide +kernel
theorem dX8_move_136 : decode cX8_move 136 = .ok (.iload_n 2, 1) := by decide +kernel
theorem dX8_move_137 : decode cX8_move 137 = .ok (.iadd, 1) := by decide +kernel
theorem dX8_move_138 : decode cX8_move 138 = .ok (.iload 6, 2) := by decide +kernel
theorem dX8_move_140 : decode cX8_move 140 = .ok (.iadd, 1) := by decide +kernel
theorem dX8_move_141 : decode cX8_move 141 = .ok (.iaload, 1) := by decide +kernel
theorem dX8_move_142 : decode cX8_move 142 = .ok (.iastore, 1) := by decide +kernel
theorem dX8_move_143 : decode cX8_move 143 = .ok (.iinc 6 1, 3) := by decide +kernel
theorem dX8_move_146 : decode cX8_move 146 = .ok (.goto (-31), 3) := by decide +kernel
theorem dX8_move_149 : decode cX8_move 149 = .ok (.iconst 0, 1) := by decide +kernel
theorem dX8_move_150 : decode cX8_move 150 = .ok (.istore 6, 2) := by decide +kernel
theorem dX8_move_152 : decode cX8_move 152 = .ok (.iload 6, 2) := by decide +kernel
theorem dX8_move_154 : decode cX8_move 154 = .ok (.iload 5, 2) := by decide +kernel
theorem dX8_move_156 : decode cX8_move 156 = .ok (.if_icmp .ge 31, 3) := by decide +kernel
theorem dX8_move_159 : decode cX8_move 159 = .ok (.aload_n 0, 1) := by decide +kernel
theorem dX8_move_160 : decode cX8_move 160 = .ok (.getfield 52, 3) := by decide +kernel
theorem dX8_move_163 : decode cX8_move 163 = .ok (.bipush 24, 2) := by decide +kernel
theorem dX8_move_165 : decode cX8_move 165 = .ok (.iload_n 3, 1) := by decide +kernel
theorem dX8_move_166 : decode cX8_move 166 = .ok (.imul, 1) := by decide +kernel
theorem dX8_move_167 : decode cX8_move 167 = .ok (.iload 4, 2) := by decide +kernel
theorem dX8_move_169 : decode cX8_move 169 = .ok (.iadd, 1) := by decide +kernel
theorem dX8_move_170 : decode cX8_move 170 = .ok (.iload 6, 2) := by decide +kernel
theorem dX8_move_172 : decode cX8_move 172 = .ok (.iadd, 1) := by decide +kernel
theorem dX8_move_173 : decode cX8_move 173 = .ok (.aload_n 0, 1) := by decide +kernel
theorem dX8_move_174 : decode cX8_move 174 = .ok (.getfield 55, 3) := by decide +kernel
theorem dX8_move_177 : decode cX8_move 177 = .ok (.iload 6, 2) := by decide +kernel
theorem dX8_move_179 : decode cX8_move 179 = .ok (.iaload, 1) := by decide +kernel
theorem dX8_move_180 : decode cX8_move 180 = .ok (.iastore, 1) := by decide +kernel
theorem dX8_move_181 : decode cX8_move 181 = .ok (.iinc 6 1, 3) := by decide +kernel
theorem dX8_move_184 : decode cX8_move 184 = .ok (.goto (-32), 3) := by decide +kernel
theorem dX8_move_187 : decode cX8_move 187 = .ok (.iload 5, 2) := by decide +kernel
theorem dX8_move_189 : decode cX8_move 189 = .ok (.ireturn, 1) := by decide +kernel
theorem dX8_lacks_0 : decode cX8_lacks 0 = .ok (.iload_n 1, 1) := by decide +kernel
theorem dX8_lacks_1 : decode cX8_lacks 1 = .ok (.invokestatic 252, 3) := by decide +kernel
theorem dX8_lacks_4 : decode cX8_lacks 4 = .ok (.ifCond .ne 7, 3) := by decide +kernel
theorem dX8_lacks_7 : decode cX8_lacks 7 = .ok (.iconst 1, 1) := by decide +kernel
theorem dX8_lacks_8 : decode cX8_lacks 8 = .ok (.goto 17, 3) := by decide +kernel
theorem dX8_lacks_11 : decode cX8_lacks 11 = .ok (.aload_n 0, 1) := by decide +kernel
theorem dX8_lacks_12 : decode cX8_lacks 12 = .ok (.getfield 46, 3) := by decide +kernel
theorem dX8_lacks_15 : decode cX8_lacks 15 = .ok (.iload_n 1, 1) := by decide +kernel
theorem dX8_lacks_16 : decode cX8_lacks 16 = .ok (.iaload, 1) := by decide +kernel
theorem dX8_lacks_17 : decode cX8_lacks 17 = .ok (.ifCond .ne 7, 3) := by decide +kernel
theorem dX8_lacks_20 : decode cX8_lacks 20 = .ok (.iconst 2, 1) := by decide +kernel
theorem dX8_lacks_21 : decode cX8_lacks 21 = .ok (.goto 4, 3) := by decide +kernel
theorem dX8_lacks_24 : decode cX8_lacks 24 = .ok (.iconst 0, 1) := by decide +kernel
theorem dX8_lacks_25 : decode cX8_lacks 25 = .ok (.ireturn, 1) := by decide +kernel
theorem dX8_parches_0 : decode cX8_parches 0 = .ok (.aload_n 0, 1) := by decide +kernel
theorem dX8_parches_1 : decode cX8_parches 1 = .ok (.iload_n 1, 1) := by decide +kernel
theorem dX8_parches_2 : decode cX8_parches 2 = .ok (.invokevirtual 214, 3) := by decide +kernel
theorem dX8_parches_5 : decode cX8_parches 5 = .ok (.istore_n 2, 1) := by decide +kernel
theorem dX8_parches_6 : decode cX8_parches 6 = .ok (.iload_n 2, 1) := by decide +kernel
theorem dX8_parches_7 : decode cX8_parches 7 = .ok (.ifCond .eq 9, 3) := by decide +kernel
theorem dX8_parches_10 : decode cX8_parches 10 = .ok (.aload_n 0, 1) := by decide +kernel
theorem dX8_parches_11 : decode cX8_parches 11 = .ok (.iload_n 2, 1) := by decide +kernel
theorem dX8_parches_12 : decode cX8_parches 12 = .ok (.invokevirtual 63, 3) := by decide +kernel
theorem dX8_parches_15 : decode cX8_parches 15 = .ok (.ireturn, 1) := by decide +kernel
theorem dX8_parches_16 : decode cX8_parches 16 = .ok (.iconst 0, 1) := by decide +kernel
theorem dX8_parches_17 : decode cX8_parches 17 = .ok (.istore_n 3, 1) := by decide +kernel
theorem dX8_parches_18 : decode cX8_parches 18 = .ok (.iload_n 3, 1) := by decide +kernel
theorem dX8_parches_19 : decode cX8_parches 19 = .ok (.aload_n 0, 1) := by decide +kernel
theorem dX8_parches_20 : decode cX8_parches 20 = .ok (.getfield 49, 3) := by decide +kernel
theorem dX8_parches_23 : decode cX8_parches 23 = .ok (.iload_n 1, 1) := by decide +kernel
theorem dX8_parches_24 : decode cX8_parches 24 = .ok (.iaload, 1) := by decide +kernel
theorem dX8_parches_25 : decode cX8_parches 25 = .ok (.if_icmp .ge 54, 3) := by decide +kernel
theorem dX8_parches_28 : decode cX8_parches 28 = .ok (.aload_n 0, 1) := by decide +kernel
theorem dX8_parches_29 : decode cX8_parches 29 = .ok (.iload_n 3, 1) := by decide +kernel
theorem dX8_parches_30 : decode cX8_parches 30 = .ok (.invokevirtual 166, 3) := by decide +kernel
theorem dX8_parches_33 : decode cX8_parches 33 = .ok (.ifCond .eq 46, 3) := by decide +kernel
theorem dX8_parches_36 : decode cX8_parches 36 = .ok (.aload_n 0, 1) := by decide +kernel
theorem dX8_parches_37 : decode cX8_parches 37 = .ok (.getfield 52, 3) := by decide +kernel
theorem dX8_parches_40 : decode cX8_parches 40 = .ok (.bipush 24, 2) := by decide +kernel
theorem dX8_parches_42 : decode cX8_parches 42 = .ok (.iload_n 1, 1) := by decide +kernel
theorem dX8_parches_43 : decode cX8_parches 43 = .ok (.imul, 1) := by decide +kernel
theorem dX8_parches_44 : decode cX8_parches 44 = .ok (.iload_n 3, 1) := by decide +kernel
theorem dX8_parches_45 : decode cX8_parches 45 = .ok (.iadd, 1) := by decide +kernel
theorem dX8_parches_46 : decode cX8_parches 46 = .ok (.iaload, 1) := by decide +kernel
theorem dX8_parches_47 : decode cX8_parches 47 = .ok (.iconst 0, 1) := by decide +kernel
theorem dX8_parches_48 : decode cX8_parches 48 = .ok (.bipush 99, 2) := by decide +kernel
theorem dX8_parches_50 : decode cX8_parches 50 = .ok (.invokestatic 59, 3) := by decide +kernel
theorem dX8_parches_53 : decode cX8_parches 53 = .ok (.ifCond .eq 26, 3) := by decide +kernel
theorem dX8_parches_56 : decode cX8_parches 56 = .ok (.aload_n 0, 1) := by decide +kernel
theorem dX8_parches_57 : decode cX8_parches 57 = .ok (.iload_n 3, 1) := by decide +kernel
theorem dX8_parches_58 : decode cX8_parches 58 = .ok (.iconst 4, 1) := by decide +kernel
theorem dX8_parches_59 : decode cX8_parches 59 = .ok (.aload_n 0, 1) := by decide +kernel
theorem dX8_parches_60 : decode cX8_parches 60 = .ok (.getfield 52, 3) := by decide +kernel
theorem dX8_parches_63 : decode cX8_parches 63 = .ok (.bipush 24, 2) := by decide +kernel
theorem dX8_parches_65 : decode cX8_parches 65 = .ok (.iload_n 1, 1) := by decide +kernel
theorem dX8_parches_66 : decode cX8_parches 66 = .ok (.imul, 1) := by decide +kernel
theorem dX8_parches_67 : decode cX8_parches 67 = .ok (.iload_n 3, 1) := by decide +kernel
theorem dX8_parches_68 : decode cX8_parches 68 = .ok (.iadd, 1) := by decide +kernel
theorem dX8_parches_69 : decode cX8_parches 69 = .ok (.iaload, 1) := by decide +kernel
theorem dX8_parches_70 : decode cX8_parches 70 = .ok (.invokevirtual 149, 3) := by decide +kernel
theorem dX8_parches_73 : decode cX8_parches 73 = .ok (.iinc 3 1, 3) := by decide +kernel
theorem dX8_parches_76 : decode cX8_parches 76 = .ok (.goto (-58), 3) := by decide +kernel
theorem dX8_parches_79 : decode cX8_parches 79 = .ok (.iload_n 3, 1) := by decide +kernel
theorem dX8_parches_80 : decode cX8_parches 80 = .ok (.ireturn, 1) := by decide +kernel
theorem dX8_judge_0 : decode cX8_judge 0 = .ok (.aload_n 0, 1) := by decide +kernel
theorem dX8_judge_1 : decode cX8_judge 1 = .ok (.iload_n 1, 1) := by decide +kernel
theorem dX8_judge_2 : decode cX8_judge 2 = .ok (.invokevirtual 214, 3) := by decide +kernel
theorem dX8_judge_5 : decode cX8_judge 5 = .ok (.istore_n 2, 1) := by decide +kernel
theorem dX8_judge_6 : decode cX8_judge 6 = .ok (.iload_n 2, 1) := by decide +kernel
theorem dX8_judge_7 : decode cX8_judge 7 = .ok (.ifCond .eq 9, 3) := by decide +kernel
theorem dX8_judge_10 : decode cX8_judge 10 = .ok (.aload_n 0, 1) := by decide +kernel
theorem dX8_judge_11 : decode cX8_judge 11 = .ok (.iload_n 2, 1) := by decide +kernel
theorem dX8_judge_12 : decode cX8_judge 12 = .ok (.invokevirtual 63, 3) := by decide +kernel
theorem dX8_judge_15 : decode cX8_judge 15 = .ok (.ireturn, 1) := by decide +kernel
theorem dX8_judge_16 : decode cX8_judge 16 = .ok (.iconst 0, 1) := by decide +kernel
theorem dX8_judge_17 : decode cX8_judge 17 = .ok (.istore_n 3, 1) := by decide +kernel
theorem dX8_judge_18 : decode cX8_judge 18 = .ok (.iload_n 3, 1) := by decide +kernel
theorem dX8_judge_19 : decode cX8_judge 19 = .ok (.aload_n 0, 1) := by decide +kernel
theorem dX8_judge_20 : decode cX8_judge 20 = .ok (.getfield 49, 3) := by decide +kernel
theorem dX8_judge_23 : decode cX8_judge 23 = .ok (.iload_n 1, 1) := by decide +kernel
theorem dX8_judge_24 : decode cX8_judge 24 = .ok (.iaload, 1) := by decide +kernel
theorem dX8_judge_25 : decode cX8_judge 25 = .ok (.if_icmp .ge 36, 3) := by decide +kernel
theorem dX8_judge_28 : decode cX8_judge 28 = .ok (.aload_n 0, 1) := by decide +kernel
theorem dX8_judge_29 : decode cX8_judge 29 = .ok (.iload_n 3, 1) := by decide +kernel
theorem dX8_judge_30 : decode cX8_judge 30 = .ok (.invokevirtual 166, 3) := by decide +kernel
theorem dX8_judge_33 : decode cX8_judge 33 = .ok (.ifCond .eq 28, 3) := by decide +kernel
theorem dX8_judge_36 : decode cX8_judge 36 = .ok (.aload_n 0, 1) := by decide +kernel
theorem dX8_judge_37 : decode cX8_judge 37 = .ok (.iload_n 3, 1) := by decide +kernel
theorem dX8_judge_38 : decode cX8_judge 38 = .ok (.invokevirtual 160, 3) := by decide +kernel
theorem dX8_judge_41 : decode cX8_judge 41 = .ok (.aload_n 0, 1) := by decide +kernel
theorem dX8_judge_42 : decode cX8_judge 42 = .ok (.getfield 52, 3) := by decide +kernel
theorem dX8_judge_45 : decode cX8_judge 45 = .ok (.bipush 24, 2) := by decide +kernel
theorem dX8_judge_47 : decode cX8_judge 47 = .ok (.iload_n 1, 1) := by decide +kernel
theorem dX8_judge_48 : decode cX8_judge 48 = .ok (.imul, 1) := by decide +kernel
theorem dX8_judge_49 : decode cX8_judge 49 = .ok (.iload_n 3, 1) := by decide +kernel
theorem dX8_judge_50 : decode cX8_judge 50 = .ok (.iadd, 1) := by decide +kernel
theorem dX8_judge_51 : decode cX8_judge 51 = .ok (.iaload, 1) := by decide +kernel
theorem dX8_judge_52 : decode cX8_judge 52 = .ok (.if_icmp .ne 9, 3) := by decide +kernel
theorem dX8_judge_55 : decode cX8_judge 55 = .ok (.iinc 3 1, 3) := by decide +kernel
theorem dX8_judge_58 : decode cX8_judge 58 = .ok (.goto (-40), 3) := by decide +kernel
theorem dX8_judge_61 : decode cX8_judge 61 = .ok (.iload_n 3, 1) := by decide +kernel
theorem dX8_judge_62 : decode cX8_judge 62 = .ok (.ireturn, 1) := by decide +kernel
theorem dX8_image_0 : decode cX8_image 0 = .ok (.aload_n 0, 1) := by decide +kernel
theorem dX8_image_1 : decode cX8_image 1 = .ok (.getfield 7, 3) := by decide +kernel
theorem dX8_image_4 : decode cX8_image 4 = .ok (.aload_n 0, 1) := by decide +kernel
theorem dX8_image_5 : decode cX8_image 5 = .ok (.getfield 13, 3) := by decide +kernel
theorem dX8_image_8 : decode cX8_image 8 = .ok (.invokestatic 255, 3) := by decide +kernel
theorem dX8_image_11 : decode cX8_image 11 = .ok (.aload_n 0, 1) := by decide +kernel
theorem dX8_image_12 : decode cX8_image 12 = .ok (.dup, 1) := by decide +kernel
theorem dX8_image_13 : decode cX8_image 13 = .ok (.getfield 259, 3) := by decide +kernel
theorem dX8_image_16 : decode cX8_image 16 = .ok (.iconst 1, 1) := by decide +kernel
theorem dX8_image_17 : decode cX8_image 17 = .ok (.iadd, 1) := by decide +kernel
theorem dX8_image_18 : decode cX8_image 18 = .ok (.putfield 259, 3) := by decide +kernel
theorem dX8_image_21 : decode cX8_image 21 = .ok (.aload_n 0, 1) := by decide +kernel
theorem dX8_image_22 : decode cX8_image 22 = .ok (.getfield 259, 3) := by decide +kernel
theorem dX8_image_25 : decode cX8_image 25 = .ok (.ireturn, 1) := by decide +kernel
theorem dX8_restore_0 : decode cX8_restore 0 = .ok (.aload_n 0, 1) := by decide +kernel
theorem dX8_restore_1 : decode cX8_restore 1 = .ok (.getfield 259, 3) := by decide +kernel
theorem dX8_restore_4 : decode cX8_restore 4 = .ok (.ifCond .ne 9, 3) := by decide +kernel
theorem dX8_restore_7 : decode cX8_restore 7 = .ok (.aload_n 0, 1) := by decide +kernel
theorem dX8_restore_8 : decode cX8_restore 8 = .ok (.iconst 2, 1) := by decide +kernel
theorem dX8_restore_9 : decode cX8_restore 9 = .ok (.invokevirtual 63, 3) := by decide +kernel
theorem dX8_restore_12 : decode cX8_restore 12 = .ok (.ireturn, 1) := by decide +kernel
theorem dX8_restore_13 : decode cX8_restore 13 = .ok (.aload_n 0, 1) := by decide +kernel
theorem dX8_restore_14 : decode cX8_restore 14 = .ok (.getfield 13, 3) := by decide +kernel
theorem dX8_restore_17 : decode cX8_restore 17 = .ok (.aload_n 0, 1) := by decide +kernel
theorem dX8_restore_18 : decode cX8_restore 18 = .ok (.getfield 7, 3) := by decide +kernel
theorem dX8_restore_21 : decode cX8_restore 21 = .ok (.invokestatic 255, 3) := by decide +kernel
theorem dX8_restore_24 : decode cX8_restore 24 = .ok (.aload_n 0, 1) := by decide +kernel
theorem dX8_restore_25 : decode cX8_restore 25 = .ok (.getfield 7, 3) := by decide +kernel
theorem dX8_restore_28 : decode cX8_restore 28 = .ok (.iconst 0, 1) := by decide +kernel
theorem dX8_restore_29 : decode cX8_restore 29 = .ok (.iaload, 1) := by decide +kernel
theorem dX8_restore_30 : decode cX8_restore 30 = .ok (.ireturn, 1) := by decide +kernel
theorem dX8_tell_0 : decode cX8_tell 0 = .ok (.aload_n 0, 1) := by decide +kernel
theorem dX8_tell_1 : decode cX8_tell 1 = .ok (.getfield 7, 3) := by decide +kernel
theorem dX8_tell_4 : decode cX8_tell 4 = .ok (.iconst 4, 1) := by decide +kernel
theorem dX8_tell_5 : decode cX8_tell 5 = .ok (.iaload, 1) := by decide +kernel
theorem dX8_tell_6 : decode cX8_tell 6 = .ok (.bipush 24, 2) := by decide +kernel
theorem dX8_tell_8 : decode cX8_tell 8 = .ok (.if_icmp .ne 9, 3) := by decide +kernel
theorem dX8_tell_11 : decode cX8_tell 11 = .ok (.aload_n 0, 1) := by decide +kernel
theorem dX8_tell_12 : decode cX8_tell 12 = .ok (.iconst 4, 1) := by decide +kernel
theorem dX8_tell_13 : decode cX8_tell 13 = .ok (.invokevirtual 63, 3) := by decide +kernel
theorem dX8_tell_16 : decode cX8_tell 16 = .ok (.ireturn, 1) := by decide +kernel
theorem dX8_tell_17 : decode cX8_tell 17 = .ok (.aload_n 0, 1) := by decide +kernel
theorem dX8_tell_18 : decode cX8_tell 18 = .ok (.getfield 7, 3) := by decide +kernel
theorem dX8_tell_21 : decode cX8_tell 21 = .ok (.sipush 370, 3) := by decide +kernel
theorem dX8_tell_24 : decode cX8_tell 24 = .ok (.aload_n 0, 1) := by decide +kernel
theorem dX8_tell_25 : decode cX8_tell 25 = .ok (.getfield 7, 3) := by decide +kernel
theorem dX8_tell_28 : decode cX8_tell 28 = .ok (.iconst 4, 1) := by decide +kernel
theorem dX8_tell_29 : decode cX8_tell 29 = .ok (.iaload, 1) := by decide +kernel
theorem dX8_tell_30 : decode cX8_tell 30 = .ok (.iadd, 1) := by decide +kernel
theorem dX8_tell_31 : decode cX8_tell 31 = .ok (.iload_n 1, 1) := by decide +kernel
theorem dX8_tell_32 : decode cX8_tell 32 = .ok (.iastore, 1) := by decide +kernel
theorem dX8_tell_33 : decode cX8_tell 33 = .ok (.aload_n 0, 1) := by decide +kernel
theorem dX8_tell_34 : decode cX8_tell 34 = .ok (.getfield 7, 3) := by decide +kernel
theorem dX8_tell_37 : decode cX8_tell 37 = .ok (.iconst 4, 1) := by decide +kernel
theorem dX8_tell_38 : decode cX8_tell 38 = .ok (.dup2, 1) := by decide +kernel
theorem dX8_tell_39 : decode cX8_tell 39 = .ok (.iaload, 1) := by decide +kernel
theorem dX8_tell_40 : decode cX8_tell 40 = .ok (.iconst 1, 1) := by decide +kernel
theorem dX8_tell_41 : decode cX8_tell 41 = .ok (.iadd, 1) := by decide +kernel
theorem dX8_tell_42 : decode cX8_tell 42 = .ok (.iastore, 1) := by decide +kernel
theorem dX8_tell_43 : decode cX8_tell 43 = .ok (.aload_n 0, 1) := by decide +kernel
theorem dX8_tell_44 : decode cX8_tell 44 = .ok (.getfield 7, 3) := by decide +kernel
theorem dX8_tell_47 : decode cX8_tell 47 = .ok (.iconst 4, 1) := by decide +kernel
theorem dX8_tell_48 : decode cX8_tell 48 = .ok (.iaload, 1) := by decide +kernel
theorem dX8_tell_49 : decode cX8_tell 49 = .ok (.ireturn, 1) := by decide +kernel
theorem dX8_check_0 : decode cX8_check 0 = .ok (.aload_n 0, 1) := by decide +kernel
theorem dX8_check_1 : decode cX8_check 1 = .ok (.getfield 7, 3) := by decide +kernel
theorem dX8_check_4 : decode cX8_check 4 = .ok (.iconst 4, 1) := by decide +kernel
theorem dX8_check_5 : decode cX8_check 5 = .ok (.iaload, 1) := by decide +kernel
theorem dX8_check_6 : decode cX8_check 6 = .ok (.istore_n 1, 1) := by decide +kernel
theorem dX8_check_7 : decode cX8_check 7 = .ok (.aload_n 0, 1) := by decide +kernel
theorem dX8_check_8 : decode cX8_check 8 = .ok (.getfield 7, 3) := by decide +kernel
theorem dX8_check_11 : decode cX8_check 11 = .ok (.iconst 4, 1) := by decide +kernel
theorem dX8_check_12 : decode cX8_check 12 = .ok (.iconst 0, 1) := by decide +kernel
theorem dX8_check_13 : decode cX8_check 13 = .ok (.iastore, 1) := by decide +kernel
theorem dX8_check_14 : decode cX8_check 14 = .ok (.iconst 0, 1) := by decide +kernel
theorem dX8_check_15 : decode cX8_check 15 = .ok (.istore_n 2, 1) := by decide +kernel
theorem dX8_check_16 : decode cX8_check 16 = .ok (.iload_n 2, 1) := by decide +kernel
theorem dX8_check_17 : decode cX8_check 17 = .ok (.iload_n 1, 1) := by decide +kernel
theorem dX8_check_18 : decode cX8_check 18 = .ok (.if_icmp .ge 47, 3) := by decide +kernel
theorem dX8_check_21 : decode cX8_check 21 = .ok (.aload_n 0, 1) := by decide +kernel
theorem dX8_check_22 : decode cX8_check 22 = .ok (.iload_n 2, 1) := by decide +kernel
theorem dX8_check_23 : decode cX8_check 23 = .ok (.invokevirtual 175, 3) := by decide +kernel
theorem dX8_check_26 : decode cX8_check 26 = .ok (.ifCond .eq 29, 3) := by decide +kernel
theorem dX8_check_29 : decode cX8_check 29 = .ok (.aload_n 0, 1) := by decide +kernel
theorem dX8_check_30 : decode cX8_check 30 = .ok (.getfield 7, 3) := by decide +kernel
theorem dX8_check_33 : decode cX8_check 33 = .ok (.sipush 370, 3) := by decide +kernel
theorem dX8_check_36 : decode cX8_check 36 = .ok (.iload_n 2, 1) := by decide +kernel
theorem dX8_check_37 : decode cX8_check 37 = .ok (.iadd, 1) := by decide +kernel
theorem dX8_check_38 : decode cX8_check 38 = .ok (.iaload, 1) := by decide +kernel
theorem dX8_check_39 : decode cX8_check 39 = .ok (.aload_n 0, 1) := by decide +kernel
theorem dX8_check_40 : decode cX8_check 40 = .ok (.getfield 7, 3) := by decide +kernel
theorem dX8_check_43 : decode cX8_check 43 = .ok (.bipush 52, 2) := by decide +kernel
theorem dX8_check_45 : decode cX8_check 45 = .ok (.iconst 2, 1) := by decide +kernel
theorem dX8_check_46 : decode cX8_check 46 = .ok (.iload_n 2, 1) := by decide +kernel
theorem dX8_check_47 : decode cX8_check 47 = .ok (.imul, 1) := by decide +kernel
theorem dX8_check_48 : decode cX8_check 48 = .ok (.iadd, 1) := by decide +kernel
theorem dX8_check_49 : decode cX8_check 49 = .ok (.iconst 1, 1) := by decide +kernel
theorem dX8_check_50 : decode cX8_check 50 = .ok (.iadd, 1) := by decide +kernel
theorem dX8_check_51 : decode cX8_check 51 = .ok (.iaload, 1) := by decide +kernel
theorem dX8_check_52 : decode cX8_check 52 = .ok (.if_icmp .eq 7, 3) := by decide +kernel
theorem dX8_check_55 : decode cX8_check 55 = .ok (.iconst 1, 1) := by decide +kernel
theorem dX8_check_56 : decode cX8_check 56 = .ok (.iload_n 2, 1) := by decide +kernel
theorem dX8_check_57 : decode cX8_check 57 = .ok (.iadd, 1) := by decide +kernel
theorem dX8_check_58 : decode cX8_check 58 = .ok (.ireturn, 1) := by decide +kernel
theorem dX8_check_59 : decode cX8_check 59 = .ok (.iinc 2 1, 3) := by decide +kernel
theorem dX8_check_62 : decode cX8_check 62 = .ok (.goto (-46), 3) := by decide +kernel
theorem dX8_check_65 : decode cX8_check 65 = .ok (.iconst 0, 1) := by decide +kernel
theorem dX8_check_66 : decode cX8_check 66 = .ok (.ireturn, 1) := by decide +kernel
theorem dX8_count_0 : decode cX8_count 0 = .ok (.iload_n 1, 1) := by decide +kernel
theorem dX8_count_1 : decode cX8_count 1 = .ok (.tableswitch 102 0 7 #[47, 54, 62, 69, 76, 83, 90, 95], 47) := by decide +kernel
theorem dX8_count_48 : decode cX8_count 48 = .ok (.aload_n 0, 1) := by decide +kernel
theorem dX8_count_49 : decode cX8_count 49 = .ok (.getfield 7, 3) := by decide +kernel
theorem dX8_count_52 : decode cX8_count 52 = .ok (.iconst 5, 1) := by decide +kernel
theorem dX8_count_53 : decode cX8_count 53 = .ok (.iaload, 1) := by decide +kernel
theorem dX8_count_54 : decode cX8_count 54 = .ok (.ireturn, 1) := by decide +kernel
theorem dX8_count_55 : decode cX8_count 55 = .ok (.aload_n 0, 1) := by decide +kernel
theorem dX8_count_56 : decode cX8_count 56 = .ok (.getfield 7, 3) := by decide +kernel
theorem dX8_count_59 : decode cX8_count 59 = .ok (.bipush 6, 2) := by decide +kernel
theorem dX8_count_61 : decode cX8_count 61 = .ok (.iaload, 1) := by decide +kernel
theorem dX8_count_62 : decode cX8_count 62 = .ok (.ireturn, 1) := by decide +kernel
theorem dX8_count_63 : decode cX8_count 63 = .ok (.aload_n 0, 1) := by decide +kernel
theorem dX8_count_64 : decode cX8_count 64 = .ok (.getfield 7, 3) := by decide +kernel
theorem dX8_count_67 : decode cX8_count 67 = .ok (.iconst 0, 1) := by decide +kernel
theorem dX8_count_68 : decode cX8_count 68 = .ok (.iaload, 1) := by decide +kernel
theorem dX8_count_69 : decode cX8_count 69 = .ok (.ireturn, 1) := by decide +kernel
theorem dX8_count_70 : decode cX8_count 70 = .ok (.aload_n 0, 1) := by decide +kernel
theorem dX8_count_71 : decode cX8_count 71 = .ok (.getfield 7, 3) := by decide +kernel
theorem dX8_count_74 : decode cX8_count 74 = .ok (.iconst 1, 1) := by decide +kernel
theorem dX8_count_75 : decode cX8_count 75 = .ok (.iaload, 1) := by decide +kernel
theorem dX8_count_76 : decode cX8_count 76 = .ok (.ireturn, 1) := by decide +kernel
theorem dX8_count_77 : decode cX8_count 77 = .ok (.aload_n 0, 1) := by decide +kernel
theorem dX8_count_78 : decode cX8_count 78 = .ok (.getfield 7, 3) := by decide +kernel
theorem dX8_count_81 : decode cX8_count 81 = .ok (.iconst 3, 1) := by decide +kernel
theorem dX8_count_82 : decode cX8_count 82 = .ok (.iaload, 1) := by decide +kernel
theorem dX8_count_83 : decode cX8_count 83 = .ok (.ireturn, 1) := by decide +kernel
theorem dX8_count_84 : decode cX8_count 84 = .ok (.aload_n 0, 1) := by decide +kernel
theorem dX8_count_85 : decode cX8_count 85 = .ok (.getfield 7, 3) := by decide +kernel
theorem dX8_count_88 : decode cX8_count 88 = .ok (.iconst 4, 1) := by decide +kernel
theorem dX8_count_89 : decode cX8_count 89 = .ok (.iaload, 1) := by decide +kernel
theorem dX8_count_90 : decode cX8_count 90 = .ok (.ireturn, 1) := by decide +kernel
theorem dX8_count_91 : decode cX8_count 91 = .ok (.aload_n 0, 1) := by decide +kernel
theorem dX8_count_92 : decode cX8_count 92 = .ok (.getfield 220, 3) := by decide +kernel
theorem dX8_count_95 : decode cX8_count 95 = .ok (.ireturn, 1) := by decide +kernel
theorem dX8_count_96 : decode cX8_count 96 = .ok (.aload_n 0, 1) := by decide +kernel
theorem dX8_count_97 : decode cX8_count 97 = .ok (.getfield 7, 3) := by decide +kernel
theorem dX8_count_100 : decode cX8_count 100 = .ok (.iconst 2, 1) := by decide +kernel
theorem dX8_count_101 : decode cX8_count 101 = .ok (.iaload, 1) := by decide +kernel
theorem dX8_count_102 : decode cX8_count 102 = .ok (.ireturn, 1) := by decide +kernel
theorem dX8_count_103 : decode cX8_count 103 = .ok (.aload_n 0, 1) := by decide +kernel
theorem dX8_count_104 : decode cX8_count 104 = .ok (.iconst 1, 1) := by decide +kernel
theorem dX8_count_105 : decode cX8_count 105 = .ok (.invokevirtual 63, 3) := by decide +kernel
theorem dX8_count_108 : decode cX8_count 108 = .ok (.ireturn, 1) := by decide +kernel
theorem dX8_told_0 : decode cX8_told 0 = .ok (.iload_n 1, 1) := by decide +kernel
theorem dX8_told_1 : decode cX8_told 1 = .ok (.iconst 1, 1) := by decide +kernel
theorem dX8_told_2 : decode cX8_told 2 = .ok (.bipush 6, 2) := by decide +kernel
theorem dX8_told_4 : decode cX8_told 4 = .ok (.invokestatic 59, 3) := by decide +kernel
theorem dX8_told_7 : decode cX8_told 7 = .ok (.ifCond .eq 12, 3) := by decide +kernel
theorem dX8_told_10 : decode cX8_told 10 = .ok (.aload_n 0, 1) := by decide +kernel
theorem dX8_told_11 : decode cX8_told 11 = .ok (.getfield 19, 3) := by decide +kernel
theorem dX8_told_14 : decode cX8_told 14 = .ok (.iload_n 1, 1) := by decide +kernel
theorem dX8_told_15 : decode cX8_told 15 = .ok (.iaload, 1) := by decide +kernel
theorem dX8_told_16 : decode cX8_told 16 = .ok (.goto 8, 3) := by decide +kernel
theorem dX8_told_19 : decode cX8_told 19 = .ok (.aload_n 0, 1) := by decide +kernel
theorem dX8_told_20 : decode cX8_told 20 = .ok (.iconst 1, 1) := by decide +kernel
theorem dX8_told_21 : decode cX8_told 21 = .ok (.invokevirtual 63, 3) := by decide +kernel
theorem dX8_told_24 : decode cX8_told 24 = .ok (.ireturn, 1) := by decide +kernel
