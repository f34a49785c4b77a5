theorem dX0_init_0 : decode cX0_init 0 = .ok (.aload_n 0, 1) := by decide +kernel
theorem dX0_init_1 : decode cX0_init 1 = .ok (.invokespecial 3, 3) := by decide +kernel
theorem dX0_init_4 : decode cX0_init 4 = .ok (.return_, 1) := by decide +kernel
theorem dX0_begin_0 : decode cX0_begin 0 = .ok (.aload_n 0, 1) := by decide +kernel
theorem dX0_begin_1 : decode cX0_begin 1 = .ok (.iload_n 1, 1) := by decide +kernel
theorem dX0_begin_2 : decode cX0_begin 2 = .ok (.invokevirtual 9, 3) := by decide +kernel
theorem dX0_begin_5 : decode cX0_begin 5 = .ok (.aload_n 0, 1) := by decide +kernel
theorem dX0_begin_6 : decode cX0_begin 6 = .ok (.iload_n 2, 1) := by decide +kernel
theorem dX0_begin_7 : decode cX0_begin 7 = .ok (.putfield 15, 3) := by decide +kernel
theorem dX0_begin_10 : decode cX0_begin 10 = .ok (.aload_n 0, 1) := by decide +kernel
theorem dX0_begin_11 : decode cX0_begin 11 = .ok (.iload_n 3, 1) := by decide +kernel
theorem dX0_begin_12 : decode cX0_begin 12 = .ok (.putfield 19, 3) := by decide +kernel
theorem dX0_begin_15 : decode cX0_begin 15 = .ok (.aload_n 0, 1) := by decide +kernel
theorem dX0_begin_16 : decode cX0_begin 16 = .ok (.iconst 0, 1) := by decide +kernel
theorem dX0_begin_17 : decode cX0_begin 17 = .ok (.putfield 22, 3) := by decide +kernel
theorem dX0_begin_20 : decode cX0_begin 20 = .ok (.aload_n 0, 1) := by decide +kernel
theorem dX0_begin_21 : decode cX0_begin 21 = .ok (.iconst 0, 1) := by decide +kernel
theorem dX0_begin_22 : decode cX0_begin 22 = .ok (.putfield 25, 3) := by decide +kernel
theorem dX0_begin_25 : decode cX0_begin 25 = .ok (.return_, 1) := by decide +kernel
theorem dX0_beOfKind_0 : decode cX0_beOfKind 0 = .ok (.aload_n 0, 1) := by decide +kernel
theorem dX0_beOfKind_1 : decode cX0_beOfKind 1 = .ok (.iload_n 1, 1) := by decide +kernel
theorem dX0_beOfKind_2 : decode cX0_beOfKind 2 = .ok (.bipush 10, 2) := by decide +kernel
theorem dX0_beOfKind_4 : decode cX0_beOfKind 4 = .ok (.idiv, 1) := by decide +kernel
theorem dX0_beOfKind_5 : decode cX0_beOfKind 5 = .ok (.putfield 28, 3) := by decide +kernel
theorem dX0_beOfKind_8 : decode cX0_beOfKind 8 = .ok (.aload_n 0, 1) := by decide +kernel
theorem dX0_beOfKind_9 : decode cX0_beOfKind 9 = .ok (.iload_n 1, 1) := by decide +kernel
theorem dX0_beOfKind_10 : decode cX0_beOfKind 10 = .ok (.bipush 10, 2) := by decide +kernel
theorem dX0_beOfKind_12 : decode cX0_beOfKind 12 = .ok (.irem, 1) := by decide +kernel
theorem dX0_beOfKind_13 : decode cX0_beOfKind 13 = .ok (.putfield 31, 3) := by decide +kernel
theorem dX0_beOfKind_16 : decode cX0_beOfKind 16 = .ok (.return_, 1) := by decide +kernel
theorem dX0_copyFrom_0 : decode cX0_copyFrom 0 = .ok (.aload_n 0, 1) := by decide +kernel
theorem dX0_copyFrom_1 : decode cX0_copyFrom 1 = .ok (.aload_n 1, 1) := by decide +kernel
theorem dX0_copyFrom_2 : decode cX0_copyFrom 2 = .ok (.getfield 28, 3) := by decide +kernel
theorem dX0_copyFrom_5 : decode cX0_copyFrom 5 = .ok (.putfield 28, 3) := by decide +kernel
theorem dX0_copyFrom_8 : decode cX0_copyFrom 8 = .ok (.aload_n 0, 1) := by decide +kernel
theorem dX0_copyFrom_9 : decode cX0_copyFrom 9 = .ok (.aload_n 1, 1) := by decide +kernel
theorem dX0_copyFrom_10 : decode cX0_copyFrom 10 = .ok (.getfield 31, 3) := by decide +kernel
theorem dX0_copyFrom_13 : decode cX0_copyFrom 13 = .ok (.putfield 31, 3) := by decide +kernel
theorem dX0_copyFrom_16 : decode cX0_copyFrom 16 = .ok (.aload_n 0, 1) := by decide +kernel
theorem dX0_copyFrom_17 : decode cX0_copyFrom 17 = .ok (.aload_n 1, 1) := by decide +kernel
theorem dX0_copyFrom_18 : decode cX0_copyFrom 18 = .ok (.getfield 15, 3) := by decide +kernel
theorem dX0_copyFrom_21 : decode cX0_copyFrom 21 = .ok (.putfield 15, 3) := by decide +kernel
theorem dX0_copyFrom_24 : decode cX0_copyFrom 24 = .ok (.aload_n 0, 1) := by decide +kernel
theorem dX0_copyFrom_25 : decode cX0_copyFrom 25 = .ok (.aload_n 1, 1) := by decide +kernel
theorem dX0_copyFrom_26 : decode cX0_copyFrom 26 = .ok (.getfield 19, 3) := by decide +kernel
theorem dX0_copyFrom_29 : decode cX0_copyFrom 29 = .ok (.putfield 19, 3) := by decide +kernel
theorem dX0_copyFrom_32 : decode cX0_copyFrom 32 = .ok (.aload_n 0, 1) := by decide +kernel
theorem dX0_copyFrom_33 : decode cX0_copyFrom 33 = .ok (.aload_n 1, 1) := by decide +kernel
theorem dX0_copyFrom_34 : decode cX0_copyFrom 34 = .ok (.getfield 22, 3) := by decide +kernel
theorem dX0_copyFrom_37 : decode cX0_copyFrom 37 = .ok (.putfield 22, 3) := by decide +kernel
theorem dX0_copyFrom_40 : decode cX0_copyFrom 40 = .ok (.aload_n 0, 1) := by decide +kernel
theorem dX0_copyFrom_41 : decode cX0_copyFrom 41 = .ok (.aload_n 1, 1) := by decide +kernel
theorem dX0_copyFrom_42 : decode cX0_copyFrom 42 = .ok (.getfield 25, 3) := by decide +kernel
theorem dX0_copyFrom_45 : decode cX0_copyFrom 45 = .ok (.putfield 25, 3) := by decide +kernel
theorem dX0_copyFrom_48 : decode cX0_copyFrom 48 = .ok (.return_, 1) := by decide +kernel
theorem dX0_grows_0 : decode cX0_grows 0 = .ok (.iconst 1, 1) := by decide +kernel
theorem dX0_grows_1 : decode cX0_grows 1 = .ok (.aload_n 0, 1) := by decide +kernel
theorem dX0_grows_2 : decode cX0_grows 2 = .ok (.getfield 31, 3) := by decide +kernel
theorem dX0_grows_5 : decode cX0_grows 5 = .ok (.iconst 3, 1) := by decide +kernel
theorem dX0_grows_6 : decode cX0_grows 6 = .ok (.idiv, 1) := by decide +kernel
theorem dX0_grows_7 : decode cX0_grows 7 = .ok (.iadd, 1) := by decide +kernel
theorem dX0_grows_8 : decode cX0_grows 8 = .ok (.istore_n 2, 1) := by decide +kernel
theorem dX0_grows_9 : decode cX0_grows 9 = .ok (.aload_n 0, 1) := by decide +kernel
theorem dX0_grows_10 : decode cX0_grows 10 = .ok (.getfield 28, 3) := by decide +kernel
theorem dX0_grows_13 : decode cX0_grows 13 = .ok (.tableswitch 91 1 6 #[39, 48, 91, 54, 68, 87], 39) := by decide +kernel
theorem dX0_grows_52 : decode cX0_grows 52 = .ok (.iload_n 2, 1) := by decide +kernel
theorem dX0_grows_53 : decode cX0_grows 53 = .ok (.aload_n 0, 1) := by decide +kernel
theorem dX0_grows_54 : decode cX0_grows 54 = .ok (.getfield 19, 3) := by decide +kernel
theorem dX0_grows_57 : decode cX0_grows 57 = .ok (.iconst 4, 1) := by decide +kernel
theorem dX0_grows_58 : decode cX0_grows 58 = .ok (.idiv, 1) := by decide +kernel
theorem dX0_grows_59 : decode cX0_grows 59 = .ok (.iadd, 1) := by decide +kernel
theorem dX0_grows_60 : decode cX0_grows 60 = .ok (.ireturn, 1) := by decide +kernel
theorem dX0_grows_61 : decode cX0_grows 61 = .ok (.iload_n 2, 1) := by decide +kernel
theorem dX0_grows_62 : decode cX0_grows 62 = .ok (.iload_n 1, 1) := by decide +kernel
theorem dX0_grows_63 : decode cX0_grows 63 = .ok (.invokestatic 34, 3) := by decide +kernel
theorem dX0_grows_66 : decode cX0_grows 66 = .ok (.ireturn, 1) := by decide +kernel
theorem dX0_grows_67 : decode cX0_grows 67 = .ok (.iload_n 2, 1) := by decide +kernel
theorem dX0_grows_68 : decode cX0_grows 68 = .ok (.aload_n 0, 1) := by decide +kernel
theorem dX0_grows_69 : decode cX0_grows 69 = .ok (.getfield 19, 3) := by decide +kernel
theorem dX0_grows_72 : decode cX0_grows 72 = .ok (.iconst 4, 1) := by decide +kernel
theorem dX0_grows_73 : decode cX0_grows 73 = .ok (.idiv, 1) := by decide +kernel
theorem dX0_grows_74 : decode cX0_grows 74 = .ok (.iadd, 1) := by decide +kernel
theorem dX0_grows_75 : decode cX0_grows 75 = .ok (.aload_n 0, 1) := by decide +kernel
theorem dX0_grows_76 : decode cX0_grows 76 = .ok (.getfield 31, 3) := by decide +kernel
theorem dX0_grows_79 : decode cX0_grows 79 = .ok (.iadd, 1) := by decide +kernel
theorem dX0_grows_80 : decode cX0_grows 80 = .ok (.ireturn, 1) := by decide +kernel
theorem dX0_grows_81 : decode cX0_grows 81 = .ok (.iload_n 2, 1) := by decide +kernel
theorem dX0_grows_82 : decode cX0_grows 82 = .ok (.iload_n 1, 1) := by decide +kernel
theorem dX0_grows_83 : decode cX0_grows 83 = .ok (.invokestatic 34, 3) := by decide +kernel
theorem dX0_grows_86 : decode cX0_grows 86 = .ok (.iload_n 1, 1) := by decide +kernel
theorem dX0_grows_87 : decode cX0_grows 87 = .ok (.bipush 7, 2) := by decide +kernel
theorem dX0_grows_89 : decode cX0_grows 89 = .ok (.irem, 1) := by decide +kernel
theorem dX0_grows_90 : decode cX0_grows 90 = .ok (.ifCond .ne 7, 3) := by decide +kernel
theorem dX0_grows_93 : decode cX0_grows 93 = .ok (.iconst 3, 1) := by decide +kernel
theorem dX0_grows_94 : decode cX0_grows 94 = .ok (.goto 4, 3) := by decide +kernel
theorem dX0_grows_97 : decode cX0_grows 97 = .ok (.iconst 0, 1) := by decide +kernel
theorem dX0_grows_98 : decode cX0_grows 98 = .ok (.iadd, 1) := by decide +kernel
theorem dX0_grows_99 : decode cX0_grows 99 = .ok (.ireturn, 1) := by decide +kernel
theorem dX0_grows_100 : decode cX0_grows 100 = .ok (.iload_n 2, 1) := by decide +kernel
theorem dX0_grows_101 : decode cX0_grows 101 = .ok (.iconst 1, 1) := by decide +kernel
theorem dX0_grows_102 : decode cX0_grows 102 = .ok (.isub, 1) := by decide +kernel
theorem dX0_grows_103 : decode cX0_grows 103 = .ok (.ireturn, 1) := by decide +kernel
theorem dX0_grows_104 : decode cX0_grows 104 = .ok (.iload_n 2, 1) := by decide +kernel
theorem dX0_grows_105 : decode cX0_grows 105 = .ok (.ireturn, 1) := by decide +kernel
theorem dX0_byDay_0 : decode cX0_byDay 0 = .ok (.iload_n 1, 1) := by decide +kernel
theorem dX0_byDay_1 : decode cX0_byDay 1 = .ok (.bipush 24, 2) := by decide +kernel
theorem dX0_byDay_3 : decode cX0_byDay 3 = .ok (.irem, 1) := by decide +kernel
theorem dX0_byDay_4 : decode cX0_byDay 4 = .ok (.bipush 8, 2) := by decide +kernel
theorem dX0_byDay_6 : decode cX0_byDay 6 = .ok (.bipush 14, 2) := by decide +kernel
theorem dX0_byDay_8 : decode cX0_byDay 8 = .ok (.invokestatic 38, 3) := by decide +kernel
theorem dX0_byDay_11 : decode cX0_byDay 11 = .ok (.ifCond .eq 9, 3) := by decide +kernel
theorem dX0_byDay_14 : decode cX0_byDay 14 = .ok (.iconst 2, 1) := by decide +kernel
theorem dX0_byDay_15 : decode cX0_byDay 15 = .ok (.iload_n 0, 1) := by decide +kernel
theorem dX0_byDay_16 : decode cX0_byDay 16 = .ok (.imul, 1) := by decide +kernel
theorem dX0_byDay_17 : decode cX0_byDay 17 = .ok (.goto 4, 3) := by decide +kernel
theorem dX0_byDay_20 : decode cX0_byDay 20 = .ok (.iload_n 0, 1) := by decide +kernel
theorem dX0_byDay_21 : decode cX0_byDay 21 = .ok (.ireturn, 1) := by decide +kernel
theorem dX0_pays_0 : decode cX0_pays 0 = .ok (.aload_n 0, 1) := by decide +kernel
theorem dX0_pays_1 : decode cX0_pays 1 = .ok (.getfield 22, 3) := by decide +kernel
theorem dX0_pays_4 : decode cX0_pays 4 = .ok (.aload_n 0, 1) := by decide +kernel
theorem dX0_pays_5 : decode cX0_pays 5 = .ok (.getfield 15, 3) := by decide +kernel
theorem dX0_pays_8 : decode cX0_pays 8 = .ok (.iadd, 1) := by decide +kernel
theorem dX0_pays_9 : decode cX0_pays 9 = .ok (.istore_n 1, 1) := by decide +kernel
theorem dX0_pays_10 : decode cX0_pays 10 = .ok (.aload_n 0, 1) := by decide +kernel
theorem dX0_pays_11 : decode cX0_pays 11 = .ok (.getfield 28, 3) := by decide +kernel
theorem dX0_pays_14 : decode cX0_pays 14 = .ok (.tableswitch 57 2 6 #[34, 38, 42, 46, 55], 34) := by decide +kernel
theorem dX0_pays_48 : decode cX0_pays 48 = .ok (.iload_n 1, 1) := by decide +kernel
theorem dX0_pays_49 : decode cX0_pays 49 = .ok (.iconst 2, 1) := by decide +kernel
theorem dX0_pays_50 : decode cX0_pays 50 = .ok (.idiv, 1) := by decide +kernel
theorem dX0_pays_51 : decode cX0_pays 51 = .ok (.ireturn, 1) := by decide +kernel
theorem dX0_pays_52 : decode cX0_pays 52 = .ok (.iconst 2, 1) := by decide +kernel
theorem dX0_pays_53 : decode cX0_pays 53 = .ok (.iload_n 1, 1) := by decide +kernel
theorem dX0_pays_54 : decode cX0_pays 54 = .ok (.imul, 1) := by decide +kernel
theorem dX0_pays_55 : decode cX0_pays 55 = .ok (.ireturn, 1) := by decide +kernel
theorem dX0_pays_56 : decode cX0_pays 56 = .ok (.iload_n 1, 1) := by decide +kernel
theorem dX0_pays_57 : decode cX0_pays 57 = .ok (.iconst 5, 1) := by decide +kernel
theorem dX0_pays_58 : decode cX0_pays 58 = .ok (.iadd, 1) := by decide +kernel
theorem dX0_pays_59 : decode cX0_pays 59 = .ok (.ireturn, 1) := by decide +kernel
theorem dX0_pays_60 : decode cX0_pays 60 = .ok (.iload_n 1, 1) := by decide +kernel
theorem dX0_pays_61 : decode cX0_pays 61 = .ok (.iconst 2, 1) := by decide +kernel
theorem dX0_pays_62 : decode cX0_pays 62 = .ok (.idiv, 1) := by decide +kernel
theorem dX0_pays_63 : decode cX0_pays 63 = .ok (.aload_n 0, 1) := by decide +kernel
theorem dX0_pays_64 : decode cX0_pays 64 = .ok (.getfield 19, 3) := by decide +kernel
theorem dX0_pays_67 : decode cX0_pays 67 = .ok (.iadd, 1) := by decide +kernel
theorem dX0_pays_68 : decode cX0_pays 68 = .ok (.ireturn, 1) := by decide +kernel
theorem dX0_pays_69 : decode cX0_pays 69 = .ok (.iconst 0, 1) := by decide +kernel
theorem dX0_pays_70 : decode cX0_pays 70 = .ok (.ireturn, 1) := by decide +kernel
theorem dX0_pays_71 : decode cX0_pays 71 = .ok (.iload_n 1, 1) := by decide +kernel
theorem dX0_pays_72 : decode cX0_pays 72 = .ok (.ireturn, 1) := by decide +kernel
theorem dX1_init_0 : decode cX1_init 0 = .ok (.aload_n 0, 1) := by decide +kernel
theorem dX1_init_1 : decode cX1_init 1 = .ok (.invokespecial 3, 3) := by decide +kernel
theorem dX1_init_4 : decode cX1_init 4 = .ok (.aload_n 0, 1) := by decide +kernel
theorem dX1_init_5 : decode cX1_init 5 = .ok (.new 9, 3) := by decide +kernel
theorem dX1_init_8 : decode cX1_init 8 = .ok (.dup, 1) := by decide +kernel
theorem dX1_init_9 : decode cX1_init 9 = .ok (.invokespecial 11, 3) := by decide +kernel
theorem dX1_init_12 : decode cX1_init 12 = .ok (.putfield 12, 3) := by decide +kernel
theorem dX1_init_15 : decode cX1_init 15 = .ok (.aload_n 0, 1) := by decide +kernel
theorem dX1_init_16 : decode cX1_init 16 = .ok (.bipush 60, 2) := by decide +kernel
theorem dX1_init_18 : decode cX1_init 18 = .ok (.newarray .int, 2) := by decide +kernel
theorem dX1_init_20 : decode cX1_init 20 = .ok (.putfield 18, 3) := by decide +kernel
theorem dX1_init_23 : decode cX1_init 23 = .ok (.aload_n 0, 1) := by decide +kernel
theorem dX1_init_24 : decode cX1_init 24 = .ok (.ldc 22, 2) := by decide +kernel
theorem dX1_init_26 : decode cX1_init 26 = .ok (.putfield 24, 3) := by decide +kernel
theorem dX1_init_29 : decode cX1_init 29 = .ok (.return_, 1) := by decide +kernel
theorem dX1_faultOf_0 : decode cX1_faultOf 0 = .ok (.aload_n 0, 1) := by decide +kernel
theorem dX1_faultOf_1 : decode cX1_faultOf 1 = .ok (.iconst 0, 1) := by decide +kernel
theorem dX1_faultOf_2 : decode cX1_faultOf 2 = .ok (.iload_n 2, 1) := by decide +kernel
theorem dX1_faultOf_3 : decode cX1_faultOf 3 = .ok (.aload_n 1, 1) := by decide +kernel
theorem dX1_faultOf_4 : decode cX1_faultOf 4 = .ok (.arraylength, 1) := by decide +kernel
theorem dX1_faultOf_5 : decode cX1_faultOf 5 = .ok (.bipush 60, 2) := by decide +kernel
theorem dX1_faultOf_7 : decode cX1_faultOf 7 = .ok (.invokestatic 28, 3) := by decide +kernel
theorem dX1_faultOf_10 : decode cX1_faultOf 10 = .ok (.invokestatic 28, 3) := by decide +kernel
theorem dX1_faultOf_13 : decode cX1_faultOf 13 = .ok (.invokestatic 34, 3) := by decide +kernel
theorem dX1_faultOf_16 : decode cX1_faultOf 16 = .ok (.putfield 37, 3) := by decide +kernel
theorem dX1_faultOf_19 : decode cX1_faultOf 19 = .ok (.iconst 0, 1) := by decide +kernel
theorem dX1_faultOf_20 : decode cX1_faultOf 20 = .ok (.istore 4, 2) := by decide +kernel
theorem dX1_faultOf_22 : decode cX1_faultOf 22 = .ok (.iload 4, 2) := by decide +kernel
theorem dX1_faultOf_24 : decode cX1_faultOf 24 = .ok (.aload_n 0, 1) := by decide +kernel
theorem dX1_faultOf_25 : decode cX1_faultOf 25 = .ok (.getfield 37, 3) := by decide +kernel
theorem dX1_faultOf_28 : decode cX1_faultOf 28 = .ok (.if_icmp .ge 24, 3) := by decide +kernel
theorem dX1_faultOf_31 : decode cX1_faultOf 31 = .ok (.aload_n 0, 1) := by decide +kernel
theorem dX1_faultOf_32 : decode cX1_faultOf 32 = .ok (.getfield 18, 3) := by decide +kernel
theorem dX1_faultOf_35 : decode cX1_faultOf 35 = .ok (.iload 4, 2) := by decide +kernel
theorem dX1_faultOf_37 : decode cX1_faultOf 37 = .ok (.aload_n 1, 1) := by decide +kernel
theorem dX1_faultOf_38 : decode cX1_faultOf 38 = .ok (.iload 4, 2) := by decide +kernel
theorem dX1_faultOf_40 : decode cX1_faultOf 40 = .ok (.baload, 1) := by decide +kernel
theorem dX1_faultOf_41 : decode cX1_faultOf 41 = .ok (.sipush 255, 3) := by decide +kernel
theorem dX1_faultOf_44 : decode cX1_faultOf 44 = .ok (.iand, 1) := by decide +kernel
theorem dX1_faultOf_45 : decode cX1_faultOf 45 = .ok (.iastore, 1) := by decide +kernel
theorem dX1_faultOf_46 : decode cX1_faultOf 46 = .ok (.iinc 4 1, 3) := by decide +kernel
theorem dX1_faultOf_49 : decode cX1_faultOf 49 = .ok (.goto (-27), 3) := by decide +kernel
theorem dX1_faultOf_52 : decode cX1_faultOf 52 = .ok (.aload_n 0, 1) := by decide +kernel
theorem dX1_faultOf_53 : decode cX1_faultOf 53 = .ok (.iconst 0, 1) := by decide +kernel
theorem dX1_faultOf_54 : decode cX1_faultOf 54 = .ok (.putfield 41, 3) := by decide +kernel
theorem dX1_faultOf_57 : decode cX1_faultOf 57 = .ok (.aload_n 0, 1) := by decide +kernel
theorem dX1_faultOf_58 : decode cX1_faultOf 58 = .ok (.aload_n 3, 1) := by decide +kernel
theorem dX1_faultOf_59 : decode cX1_faultOf 59 = .ok (.putfield 24, 3) := by decide +kernel
theorem dX1_faultOf_62 : decode cX1_faultOf 62 = .ok (.aload_n 0, 1) := by decide +kernel
theorem dX1_faultOf_63 : decode cX1_faultOf 63 = .ok (.getfield 12, 3) := by decide +kernel
theorem dX1_faultOf_66 : decode cX1_faultOf 66 = .ok (.invokevirtual 44, 3) := by decide +kernel
theorem dX1_faultOf_69 : decode cX1_faultOf 69 = .ok (.aload_n 0, 1) := by decide +kernel
theorem dX1_faultOf_70 : decode cX1_faultOf 70 = .ok (.iconst 0, 1) := by decide +kernel
theorem dX1_faultOf_71 : decode cX1_faultOf 71 = .ok (.iconst 0, 1) := by decide +kernel
theorem dX1_faultOf_72 : decode cX1_faultOf 72 = .ok (.invokevirtual 47, 3) := by decide +kernel
theorem dX1_faultOf_75 : decode cX1_faultOf 75 = .ok (.ifCond .eq 18, 3) := by decide +kernel
theorem dX1_faultOf_78 : decode cX1_faultOf 78 = .ok (.aload_n 0, 1) := by decide +kernel
theorem dX1_faultOf_79 : decode cX1_faultOf 79 = .ok (.getfield 41, 3) := by decide +kernel
theorem dX1_faultOf_82 : decode cX1_faultOf 82 = .ok (.aload_n 0, 1) := by decide +kernel
theorem dX1_faultOf_83 : decode cX1_faultOf 83 = .ok (.getfield 37, 3) := by decide +kernel
theorem dX1_faultOf_86 : decode cX1_faultOf 86 = .ok (.if_icmp .ne 7, 3) := by decide +kernel
theorem dX1_faultOf_89 : decode cX1_faultOf 89 = .ok (.iconst (-1), 1) := by decide +kernel
theorem dX1_faultOf_90 : decode cX1_faultOf 90 = .ok (.goto 7, 3) := by decide +kernel
theorem dX1_faultOf_93 : decode cX1_faultOf 93 = .ok (.aload_n 0, 1) := by decide +kernel
theorem dX1_faultOf_94 : decode cX1_faultOf 94 = .ok (.getfield 41, 3) := by decide +kernel
theorem dX1_faultOf_97 : decode cX1_faultOf 97 = .ok (.ireturn, 1) := by decide +kernel
theorem dX1_readRank_0 : decode cX1_readRank 0 = .ok (.iload_n 1, 1) := by decide +kernel
theorem dX1_readRank_1 : decode cX1_readRank 1 = .ok (.iconst 5, 1) := by decide +kernel
theorem dX1_readRank_2 : decode cX1_readRank 2 = .ok (.if_icmp .lt 9, 3) := by decide +kernel
theorem dX1_readRank_5 : decode cX1_readRank 5 = .ok (.aload_n 0, 1) := by decide +kernel
theorem dX1_readRank_6 : decode cX1_readRank 6 = .ok (.iload_n 2, 1) := by decide +kernel
theorem dX1_readRank_7 : decode cX1_readRank 7 = .ok (.invokevirtual 51, 3) := by decide +kernel
theorem dX1_readRank_10 : decode cX1_readRank 10 = .ok (.ireturn, 1) := by decide +kernel
theorem dX1_readRank_11 : decode cX1_readRank 11 = .ok (.aload_n 0, 1) := by decide +kernel
theorem dX1_readRank_12 : decode cX1_readRank 12 = .ok (.iload_n 1, 1) := by decide +kernel
theorem dX1_readRank_13 : decode cX1_readRank 13 = .ok (.iconst 1, 1) := by decide +kernel
theorem dX1_readRank_14 : decode cX1_readRank 14 = .ok (.iadd, 1) := by decide +kernel
theorem dX1_readRank_15 : decode cX1_readRank 15 = .ok (.iload_n 2, 1) := by decide +kernel
theorem dX1_readRank_16 : decode cX1_readRank 16 = .ok (.invokevirtual 47, 3) := by decide +kernel
theorem dX1_readRank_19 : decode cX1_readRank 19 = .ok (.ifCond .ne 5, 3) := by decide +kernel
theorem dX1_readRank_22 : decode cX1_readRank 22 = .ok (.iconst 0, 1) := by decide +kernel
theorem dX1_readRank_23 : decode cX1_readRank 23 = .ok (.ireturn, 1) := by decide +kernel
theorem dX1_readRank_24 : decode cX1_readRank 24 = .ok (.aload_n 0, 1) := by decide +kernel
theorem dX1_readRank_25 : decode cX1_readRank 25 = .ok (.getfield 41, 3) := by decide +kernel
theorem dX1_readRank_28 : decode cX1_readRank 28 = .ok (.aload_n 0, 1) := by decide +kernel
theorem dX1_readRank_29 : decode cX1_readRank 29 = .ok (.getfield 37, 3) := by decide +kernel
theorem dX1_readRank_32 : decode cX1_readRank 32 = .ok (.if_icmp .ge 72, 3) := by decide +kernel
theorem dX1_readRank_35 : decode cX1_readRank 35 = .ok (.aload_n 0, 1) := by decide +kernel
theorem dX1_readRank_36 : decode cX1_readRank 36 = .ok (.getfield 18, 3) := by decide +kernel
theorem dX1_readRank_39 : decode cX1_readRank 39 = .ok (.aload_n 0, 1) := by decide +kernel
theorem dX1_readRank_40 : decode cX1_readRank 40 = .ok (.getfield 41, 3) := by decide +kernel
theorem dX1_readRank_43 : decode cX1_readRank 43 = .ok (.iaload, 1) := by decide +kernel
theorem dX1_readRank_44 : decode cX1_readRank 44 = .ok (.invokestatic 55, 3) := by decide +kernel
theorem dX1_readRank_47 : decode cX1_readRank 47 = .ok (.iload_n 1, 1) := by decide +kernel
theorem dX1_readRank_48 : decode cX1_readRank 48 = .ok (.if_icmp .ne 56, 3) := by decide +kernel
theorem dX1_readRank_51 : decode cX1_readRank 51 = .ok (.aload_n 0, 1) := by decide +kernel
theorem dX1_readRank_52 : decode cX1_readRank 52 = .ok (.getfield 18, 3) := by decide +kernel
theorem dX1_readRank_55 : decode cX1_readRank 55 = .ok (.aload_n 0, 1) := by decide +kernel
theorem dX1_readRank_56 : decode cX1_readRank 56 = .ok (.getfield 41, 3) := by decide +kernel
theorem dX1_readRank_59 : decode cX1_readRank 59 = .ok (.iaload, 1) := by decide +kernel
theorem dX1_readRank_60 : decode cX1_readRank 60 = .ok (.istore_n 3, 1) := by decide +kernel
theorem dX1_readRank_61 : decode cX1_readRank 61 = .ok (.aload_n 0, 1) := by decide +kernel
theorem dX1_readRank_62 : decode cX1_readRank 62 = .ok (.dup, 1) := by decide +kernel
theorem dX1_readRank_63 : decode cX1_readRank 63 = .ok (.getfield 41, 3) := by decide +kernel
theorem dX1_readRank_66 : decode cX1_readRank 66 = .ok (.iconst 1, 1) := by decide +kernel
theorem dX1_readRank_67 : decode cX1_readRank 67 = .ok (.iadd, 1) := by decide +kernel
theorem dX1_readRank_68 : decode cX1_readRank 68 = .ok (.putfield 41, 3) := by decide +kernel
theorem dX1_readRank_71 : decode cX1_readRank 71 = .ok (.aload_n 0, 1) := by decide +kernel
theorem dX1_readRank_72 : decode cX1_readRank 72 = .ok (.iload_n 1, 1) := by decide +kernel
theorem dX1_readRank_73 : decode cX1_readRank 73 = .ok (.iconst 1, 1) := by decide +kernel
theorem dX1_readRank_74 : decode cX1_readRank 74 = .ok (.iadd, 1) := by decide +kernel
theorem dX1_readRank_75 : decode cX1_readRank 75 = .ok (.iload_n 2, 1) := by decide +kernel
theorem dX1_readRank_76 : decode cX1_readRank 76 = .ok (.invokevirtual 47, 3) := by decide +kernel
theorem dX1_readRank_79 : decode cX1_readRank 79 = .ok (.ifCond .ne 5, 3) := by decide +kernel
theorem dX1_readRank_82 : decode cX1_readRank 82 = .ok (.iconst 0, 1) := by decide +kernel
theorem dX1_readRank_83 : decode cX1_readRank 83 = .ok (.ireturn, 1) := by decide +kernel
theorem dX1_readRank_84 : decode cX1_readRank 84 = .ok (.aload_n 0, 1) := by decide +kernel
theorem dX1_readRank_85 : decode cX1_readRank 85 = .ok (.getfield 12, 3) := by decide +kernel
theorem dX1_readRank_88 : decode cX1_readRank 88 = .ok (.iload_n 3, 1) := by decide +kernel
theorem dX1_readRank_89 : decode cX1_readRank 89 = .ok (.iconst 0, 1) := by decide +kernel
theorem dX1_readRank_90 : decode cX1_readRank 90 = .ok (.invokevirtual 59, 3) := by decide +kernel
theorem dX1_readRank_93 : decode cX1_readRank 93 = .ok (.iload_n 1, 1) := by decide +kernel
theorem dX1_readRank_94 : decode cX1_readRank 94 = .ok (.iconst 2, 1) := by decide +kernel
theorem dX1_readRank_95 : decode cX1_readRank 95 = .ok (.if_icmp .ne 6, 3) := by decide +kernel
theorem dX1_readRank_98 : decode cX1_readRank 98 = .ok (.goto 6, 3) := by decide +kernel
theorem dX1_readRank_101 : decode cX1_readRank 101 = .ok (.goto (-77), 3) := by decide +kernel
theorem dX1_readRank_104 : decode cX1_readRank 104 = .ok (.iconst 1, 1) := by decide +kernel
theorem dX1_readRank_105 : decode cX1_readRank 105 = .ok (.ireturn, 1) := by decide +kernel
theorem dX1_rankOf_0 : decode cX1_rankOf 0 = .ok (.iload_n 0, 1) := by decide +kernel
theorem dX1_rankOf_1 : decode cX1_rankOf 1 = .ok (.lookupswitch 101 #[(37, 99), (38, 93), (42, 99), (43, 97), (45, 97), (47, 99), (60, 95), (61, 95), (62, 95), (124, 91)], 91) := by decide +kernel
theorem dX1_rankOf_92 : decode cX1_rankOf 92 = .ok (.iconst 0, 1) := by decide +kernel
theorem dX1_rankOf_93 : decode cX1_rankOf 93 = .ok (.ireturn, 1) := by decide +kernel
theorem dX1_rankOf_94 : decode cX1_rankOf 94 = .ok (.iconst 1, 1) := by decide +kernel
theorem dX1_rankOf_95 : decode cX1_rankOf 95 = .ok (.ireturn, 1) := by decide +kernel
theorem dX1_rankOf_96 : decode cX1_rankOf 96 = .ok (.iconst 2, 1) := by decide +kernel
theorem dX1_rankOf_97 : decode cX1_rankOf 97 = .ok (.ireturn, 1) := by decide +kernel
theorem dX1_rankOf_98 : decode cX1_rankOf 98 = .ok (.iconst 3, 1) := by decide +kernel
theorem dX1_rankOf_99 : decode cX1_rankOf 99 = .ok (.ireturn, 1) := by decide +kernel
theorem dX1_rankOf_100 : decode cX1_rankOf 100 = .ok (.iconst 4, 1) := by decide +kernel
theorem dX1_rankOf_101 : decode cX1_rankOf 101 = .ok (.ireturn, 1) := by decide +kernel
theorem dX1_rankOf_102 : decode cX1_rankOf 102 = .ok (.iconst (-1), 1) := by decide +kernel
theorem dX1_rankOf_103 : decode cX1_rankOf 103 = .ok (.ireturn, 1) := by decide +kernel
theorem dX1_readOperand_0 : decode cX1_readOperand 0 = .ok (.aload_n 0, 1) := by decide +kernel
theorem dX1_readOperand_1 : decode cX1_readOperand 1 = .ok (.getfield 41, 3) := by decide +kernel
theorem dX1_readOperand_4 : decode cX1_readOperand 4 = .ok (.aload_n 0, 1) := by decide +kernel
theorem dX1_readOperand_5 : decode cX1_readOperand 5 = .ok (.getfield 37, 3) := by decide +kernel
theorem dX1_readOperand_8 : decode cX1_readOperand 8 = .ok (.if_icmp .lt 5, 3) := by decide +kernel
theorem dX1_readOperand_11 : decode cX1_readOperand 11 = .ok (.iconst 0, 1) := by decide +kernel
theorem dX1_readOperand_12 : decode cX1_readOperand 12 = .ok (.ireturn, 1) := by decide +kernel
theorem dX1_readOperand_13 : decode cX1_readOperand 13 = .ok (.aload_n 0, 1) := by decide +kernel
theorem dX1_readOperand_14 : decode cX1_readOperand 14 = .ok (.getfield 18, 3) := by decide +kernel
theorem dX1_readOperand_17 : decode cX1_readOperand 17 = .ok (.aload_n 0, 1) := by decide +kernel
theorem dX1_readOperand_18 : decode cX1_readOperand 18 = .ok (.getfield 41, 3) := by decide +kernel
theorem dX1_readOperand_21 : decode cX1_readOperand 21 = .ok (.iaload, 1) := by decide +kernel
theorem dX1_readOperand_22 : decode cX1_readOperand 22 = .ok (.istore_n 2, 1) := by decide +kernel
theorem dX1_readOperand_23 : decode cX1_readOperand 23 = .ok (.iload_n 2, 1) := by decide +kernel
theorem dX1_readOperand_24 : decode cX1_readOperand 24 = .ok (.invokestatic 63, 3) := by decide +kernel
theorem dX1_readOperand_27 : decode cX1_readOperand 27 = .ok (.ifCond .eq 9, 3) := by decide +kernel
theorem dX1_readOperand_30 : decode cX1_readOperand 30 = .ok (.aload_n 0, 1) := by decide +kernel
theorem dX1_readOperand_31 : decode cX1_readOperand 31 = .ok (.invokevirtual 66, 3) := by decide +kernel
theorem dX1_readOperand_34 : decode cX1_readOperand 34 = .ok (.iconst 1, 1) := by decide +kernel
theorem dX1_readOperand_35 : decode cX1_readOperand 35 = .ok (.ireturn, 1) := by decide +kernel
theorem dX1_readOperand_36 : decode cX1_readOperand 36 = .ok (.aload_n 0, 1) := by decide +kernel
theorem dX1_readOperand_37 : decode cX1_readOperand 37 = .ok (.getfield 24, 3) := by decide +kernel
theorem dX1_readOperand_40 : decode cX1_readOperand 40 = .ok (.iload_n 2, 1) := by decide +kernel
theorem dX1_readOperand_41 : decode cX1_readOperand 41 = .ok (.i2c, 1) := by decide +kernel
theorem dX1_readOperand_42 : decode cX1_readOperand 42 = .ok (.invokevirtual 69, 3) := by decide +kernel
theorem dX1_readOperand_45 : decode cX1_readOperand 45 = .ok (.istore_n 3, 1) := by decide +kernel
theorem dX1_readOperand_46 : decode cX1_readOperand 46 = .ok (.iload_n 3, 1) := by decide +kernel
theorem dX1_readOperand_47 : decode cX1_readOperand 47 = .ok (.ifCond .lt 24, 3) := by decide +kernel
theorem dX1_readOperand_50 : decode cX1_readOperand 50 = .ok (.aload_n 0, 1) := by decide +kernel
theorem dX1_readOperand_51 : decode cX1_readOperand 51 = .ok (.dup, 1) := by decide +kernel
theorem dX1_readOperand_52 : decode cX1_readOperand 52 = .ok (.getfield 41, 3) := by decide +kernel
theorem dX1_readOperand_55 : decode cX1_readOperand 55 = .ok (.iconst 1, 1) := by decide +kernel
theorem dX1_readOperand_56 : decode cX1_readOperand 56 = .ok (.iadd, 1) := by decide +kernel
theorem dX1_readOperand_57 : decode cX1_readOperand 57 = .ok (.putfield 41, 3) := by decide +kernel
theorem dX1_readOperand_60 : decode cX1_readOperand 60 = .ok (.aload_n 0, 1) := by decide +kernel
theorem dX1_readOperand_61 : decode cX1_readOperand 61 = .ok (.getfield 12, 3) := by decide +kernel
theorem dX1_readOperand_64 : decode cX1_readOperand 64 = .ok (.iconst 2, 1) := by decide +kernel
theorem dX1_readOperand_65 : decode cX1_readOperand 65 = .ok (.iload_n 3, 1) := by decide +kernel
theorem dX1_readOperand_66 : decode cX1_readOperand 66 = .ok (.invokevirtual 59, 3) := by decide +kernel
theorem dX1_readOperand_69 : decode cX1_readOperand 69 = .ok (.iconst 1, 1) := by decide +kernel
theorem dX1_readOperand_70 : decode cX1_readOperand 70 = .ok (.ireturn, 1) := by decide +kernel
theorem dX1_readOperand_71 : decode cX1_readOperand 71 = .ok (.iload_n 1, 1) := by decide +kernel
theorem dX1_readOperand_72 : decode cX1_readOperand 72 = .ok (.iconst 5, 1) := by decide +kernel
theorem dX1_readOperand_73 : decode cX1_readOperand 73 = .ok (.if_icmp .lt 5, 3) := by decide +kernel
theorem dX1_readOperand_76 : decode cX1_readOperand 76 = .ok (.iconst 0, 1) := by decide +kernel
theorem dX1_readOperand_77 : decode cX1_readOperand 77 = .ok (.ireturn, 1) := by decide +kernel
theorem dX1_readOperand_78 : decode cX1_readOperand 78 = .ok (.iload_n 2, 1) := by decide +kernel
theorem dX1_readOperand_79 : decode cX1_readOperand 79 = .ok (.bipush 33, 2) := by decide +kernel
theorem dX1_readOperand_81 : decode cX1_readOperand 81 = .ok (.if_icmp .ne 13, 3) := by decide +kernel
theorem dX1_readOperand_84 : decode cX1_readOperand 84 = .ok (.aload_n 0, 1) := by decide +kernel
theorem dX1_readOperand_85 : decode cX1_readOperand 85 = .ok (.iload_n 1, 1) := by decide +kernel
theorem dX1_readOperand_86 : decode cX1_readOperand 86 = .ok (.iconst 1, 1) := by decide +kernel
theorem dX1_readOperand_87 : decode cX1_readOperand 87 = .ok (.iadd, 1) := by decide +kernel
theorem dX1_readOperand_88 : decode cX1_readOperand 88 = .ok (.invokevirtual 74, 3) := by decide +kernel
theorem dX1_readOperand_91 : decode cX1_readOperand 91 = .ok (.goto 24, 3) := by decide +kernel
theorem dX1_readOperand_94 : decode cX1_readOperand 94 = .ok (.iload_n 2, 1) := by decide +kernel
theorem dX1_readOperand_95 : decode cX1_readOperand 95 = .ok (.bipush 40, 2) := by decide +kernel
theorem dX1_readOperand_97 : decode cX1_readOperand 97 = .ok (.if_icmp .ne 17, 3) := by decide +kernel
theorem dX1_readOperand_100 : decode cX1_readOperand 100 = .ok (.aload_n 0, 1) := by decide +kernel
theorem dX1_readOperand_101 : decode cX1_readOperand 101 = .ok (.iload_n 1, 1) := by decide +kernel
theorem dX1_readOperand_102 : decode cX1_readOperand 102 = .ok (.iconst 1, 1) := by decide +kernel
theorem dX1_readOperand_103 : decode cX1_readOperand 103 = .ok (.iadd, 1) := by decide +kernel
theorem dX1_readOperand_104 : decode cX1_readOperand 104 = .ok (.invokevirtual 77, 3) := by decide +kernel
theorem dX1_readOperand_107 : decode cX1_readOperand 107 = .ok (.ifCond .eq 7, 3) := by decide +kernel
theorem dX1_readOperand_110 : decode cX1_readOperand 110 = .ok (.iconst 1, 1) := by decide +kernel
theorem dX1_readOperand_111 : decode cX1_readOperand 111 = .ok (.goto 4, 3) := by decide +kernel
theorem dX1_readOperand_114 : decode cX1_readOperand 114 = .ok (.iconst 0, 1) := by decide +kernel
theorem dX1_readOperand_115 : decode cX1_readOperand 115 = .ok (.ireturn, 1) := by decide +kernel
theorem dX1_readNumber_0 : decode cX1_readNumber 0 = .ok (.iconst 0, 1) := by decide +kernel
theorem dX1_readNumber_1 : decode cX1_readNumber 1 = .ok (.istore_n 1, 1) := by decide +kernel
theorem dX1_readNumber_2 : decode cX1_readNumber 2 = .ok (.iconst 0, 1) := by decide +kernel
theorem dX1_readNumber_3 : decode cX1_readNumber 3 = .ok (.istore_n 2, 1) := by decide +kernel
theorem dX1_readNumber_4 : decode cX1_readNumber 4 = .ok (.iload_n 2, 1) := by decide +kernel
theorem dX1_readNumber_5 : decode cX1_readNumber 5 = .ok (.iconst 4, 1) := by decide +kernel
theorem dX1_readNumber_6 : decode cX1_readNumber 6 = .ok (.if_icmp .ge 63, 3) := by decide +kernel
theorem dX1_readNumber_9 : decode cX1_readNumber 9 = .ok (.aload_n 0, 1) := by decide +kernel
theorem dX1_readNumber_10 : decode cX1_readNumber 10 = .ok (.getfield 41, 3) := by decide +kernel
theorem dX1_readNumber_13 : decode cX1_readNumber 13 = .ok (.aload_n 0, 1) := by decide +kernel
theorem dX1_readNumber_14 : decode cX1_readNumber 14 = .ok (.getfield 37, 3) := by decide +kernel
theorem dX1_readNumber_17 : decode cX1_readNumber 17 = .ok (.if_icmp .ge 52, 3) := by decide +kernel
theorem dX1_readNumber_20 : decode cX1_readNumber 20 = .ok (.aload_n 0, 1) := by decide +kernel
theorem dX1_readNumber_21 : decode cX1_readNumber 21 = .ok (.getfield 18, 3) := by decide +kernel
theorem dX1_readNumber_24 : decode cX1_readNumber 24 = .ok (.aload_n 0, 1) := by decide +kernel
theorem dX1_readNumber_25 : decode cX1_readNumber 25 = .ok (.getfield 41, 3) := by decide +kernel
theorem dX1_readNumber_28 : decode cX1_readNumber 28 = .ok (.iaload, 1) := by decide +kernel
theorem dX1_readNumber_29 : decode cX1_readNumber 29 = .ok (.invokestatic 63, 3) := by decide +kernel
theorem dX1_readNumber_32 : decode cX1_readNumber 32 = .ok (.ifCond .eq 37, 3) := by decide +kernel
theorem dX1_readNumber_35 : decode cX1_readNumber 35 = .ok (.bipush 10, 2) := by decide +kernel
theorem dX1_readNumber_37 : decode cX1_readNumber 37 = .ok (.iload_n 1, 1) := by decide +kernel
theorem dX1_readNumber_38 : decode cX1_readNumber 38 = .ok (.imul, 1) := by decide +kernel
theorem dX1_readNumber_39 : decode cX1_readNumber 39 = .ok (.aload_n 0, 1) := by decide +kernel
theorem dX1_readNumber_40 : decode cX1_readNumber 40 = .ok (.getfield 18, 3) := by decide +kernel
theorem dX1_readNumber_43 : decode cX1_readNumber 43 = .ok (.aload_n 0, 1) := by decide +kernel
theorem dX1_readNumber_44 : decode cX1_readNumber 44 = .ok (.getfield 41, 3) := by decide +kernel
theorem dX1_readNumber_47 : decode cX1_readNumber 47 = .ok (.iaload, 1) := by decide +kernel
theorem dX1_readNumber_48 : decode cX1_readNumber 48 = .ok (.iadd, 1) := by decide +kernel
theorem dX1_readNumber_49 : decode cX1_readNumber 49 = .ok (.bipush 48, 2) := by decide +kernel
theorem dX1_readNumber_51 : decode cX1_readNumber 51 = .ok (.isub, 1) := by decide +kernel
theorem dX1_readNumber_52 : decode cX1_readNumber 52 = .ok (.istore_n 1, 1) := by decide +kernel
theorem dX1_readNumber_53 : decode cX1_readNumber 53 = .ok (.aload_n 0, 1) := by decide +kernel
theorem dX1_readNumber_54 : decode cX1_readNumber 54 = .ok (.dup, 1) := by decide +kernel
theorem dX1_readNumber_55 : decode cX1_readNumber 55 = .ok (.getfield 41, 3) := by decide +kernel
theorem dX1_readNumber_58 : decode cX1_readNumber 58 = .ok (.iconst 1, 1) := by decide +kernel
theorem dX1_readNumber_59 : decode cX1_readNumber 59 = .ok (.iadd, 1) := by decide +kernel
theorem dX1_readNumber_60 : decode cX1_readNumber 60 = .ok (.putfield 41, 3) := by decide +kernel
theorem dX1_readNumber_63 : decode cX1_readNumber 63 = .ok (.iinc 2 1, 3) := by decide +kernel
theorem dX1_readNumber_66 : decode cX1_readNumber 66 = .ok (.goto (-62), 3) := by decide +kernel
theorem dX1_readNumber_69 : decode cX1_readNumber 69 = .ok (.aload_n 0, 1) := by decide +kernel
theorem dX1_readNumber_70 : decode cX1_readNumber 70 = .ok (.getfield 12, 3) := by decide +kernel
theorem dX1_readNumber_73 : decode cX1_readNumber 73 = .ok (.iconst 1, 1) := by decide +kernel
theorem dX1_readNumber_74 : decode cX1_readNumber 74 = .ok (.iload_n 1, 1) := by decide +kernel
theorem dX1_readNumber_75 : decode cX1_readNumber 75 = .ok (.invokevirtual 59, 3) := by decide +kernel
theorem dX1_readNumber_78 : decode cX1_readNumber 78 = .ok (.return_, 1) := by decide +kernel
theorem dX1_readNot_0 : decode cX1_readNot 0 = .ok (.aload_n 0, 1) := by decide +kernel
theorem dX1_readNot_1 : decode cX1_readNot 1 = .ok (.dup, 1) := by decide +kernel
theorem dX1_readNot_2 : decode cX1_readNot 2 = .ok (.getfield 41, 3) := by decide +kernel
theorem dX1_readNot_5 : decode cX1_readNot 5 = .ok (.iconst 1, 1) := by decide +kernel
theorem dX1_readNot_6 : decode cX1_readNot 6 = .ok (.iadd, 1) := by decide +kernel
theorem dX1_readNot_7 : decode cX1_readNot 7 = .ok (.putfield 41, 3) := by decide +kernel
theorem dX1_readNot_10 : decode cX1_readNot 10 = .ok (.aload_n 0, 1) := by decide +kernel
theorem dX1_readNot_11 : decode cX1_readNot 11 = .ok (.iload_n 1, 1) := by decide +kernel
theorem dX1_readNot_12 : decode cX1_readNot 12 = .ok (.invokevirtual 51, 3) := by decide +kernel
theorem dX1_readNot_15 : decode cX1_readNot 15 = .ok (.ifCond .ne 5, 3) := by decide +kernel
theorem dX1_readNot_18 : decode cX1_readNot 18 = .ok (.iconst 0, 1) := by decide +kernel
theorem dX1_readNot_19 : decode cX1_readNot 19 = .ok (.ireturn, 1) := by decide +kernel
theorem dX1_readNot_20 : decode cX1_readNot 20 = .ok (.aload_n 0, 1) := by decide +kernel
theorem dX1_readNot_21 : decode cX1_readNot 21 = .ok (.getfield 12, 3) := by decide +kernel
theorem dX1_readNot_24 : decode cX1_readNot 24 = .ok (.bipush 33, 2) := by decide +kernel
theorem dX1_readNot_26 : decode cX1_readNot 26 = .ok (.iconst 0, 1) := by decide +kernel
theorem dX1_readNot_27 : decode cX1_readNot 27 = .ok (.invokevirtual 59, 3) := by decide +kernel
theorem dX1_readNot_30 : decode cX1_readNot 30 = .ok (.iconst 1, 1) := by decide +kernel
theorem dX1_readNot_31 : decode cX1_readNot 31 = .ok (.ireturn, 1) := by decide +kernel
theorem dX1_readBracket_0 : decode cX1_readBracket 0 = .ok (.aload_n 0, 1) := by decide +kernel
theorem dX1_readBracket_1 : decode cX1_readBracket 1 = .ok (.dup, 1) := by decide +kernel
theorem dX1_readBracket_2 : decode cX1_readBracket 2 = .ok (.getfield 41, 3) := by decide +kernel
theorem dX1_readBracket_5 : decode cX1_readBracket 5 = .ok (.iconst 1, 1) := by decide +kernel
theorem dX1_readBracket_6 : decode cX1_readBracket 6 = .ok (.iadd, 1) := by decide +kernel
theorem dX1_readBracket_7 : decode cX1_readBracket 7 = .ok (.putfield 41, 3) := by decide +kernel
theorem dX1_readBracket_10 : decode cX1_readBracket 10 = .ok (.aload_n 0, 1) := by decide +kernel
theorem dX1_readBracket_11 : decode cX1_readBracket 11 = .ok (.iconst 0, 1) := by decide +kernel
theorem dX1_readBracket_12 : decode cX1_readBracket 12 = .ok (.iload_n 1, 1) := by decide +kernel
theorem dX1_readBracket_13 : decode cX1_readBracket 13 = .ok (.invokevirtual 47, 3) := by decide +kernel
theorem dX1_readBracket_16 : decode cX1_readBracket 16 = .ok (.ifCond .eq 28, 3) := by decide +kernel
theorem dX1_readBracket_19 : decode cX1_readBracket 19 = .ok (.aload_n 0, 1) := by decide +kernel
theorem dX1_readBracket_20 : decode cX1_readBracket 20 = .ok (.getfield 41, 3) := by decide +kernel
theorem dX1_readBracket_23 : decode cX1_readBracket 23 = .ok (.aload_n 0, 1) := by decide +kernel
theorem dX1_readBracket_24 : decode cX1_readBracket 24 = .ok (.getfield 37, 3) := by decide +kernel
theorem dX1_readBracket_27 : decode cX1_readBracket 27 = .ok (.if_icmp .ge 17, 3) := by decide +kernel
theorem dX1_readBracket_30 : decode cX1_readBracket 30 = .ok (.aload_n 0, 1) := by decide +kernel
theorem dX1_readBracket_31 : decode cX1_readBracket 31 = .ok (.getfield 18, 3) := by decide +kernel
theorem dX1_readBracket_34 : decode cX1_readBracket 34 = .ok (.aload_n 0, 1) := by decide +kernel
theorem dX1_readBracket_35 : decode cX1_readBracket 35 = .ok (.getfield 41, 3) := by decide +kernel
theorem dX1_readBracket_38 : decode cX1_readBracket 38 = .ok (.iaload, 1) := by decide +kernel
theorem dX1_readBracket_39 : decode cX1_readBracket 39 = .ok (.bipush 41, 2) := by decide +kernel
theorem dX1_readBracket_41 : decode cX1_readBracket 41 = .ok (.if_icmp .eq 5, 3) := by decide +kernel
theorem dX1_readBracket_44 : decode cX1_readBracket 44 = .ok (.iconst 0, 1) := by decide +kernel
theorem dX1_readBracket_45 : decode cX1_readBracket 45 = .ok (.ireturn, 1) := by decide +kernel
theorem dX1_readBracket_46 : decode cX1_readBracket 46 = .ok (.aload_n 0, 1) := by decide +kernel
theorem dX1_readBracket_47 : decode cX1_readBracket 47 = .ok (.dup, 1) := by decide +kernel
theorem dX1_readBracket_48 : decode cX1_readBracket 48 = .ok (.getfield 41, 3) := by decide +kernel
theorem dX1_readBracket_51 : decode cX1_readBracket 51 = .ok (.iconst 1, 1) := by decide +kernel
theorem dX1_readBracket_52 : decode cX1_readBracket 52 = .ok (.iadd, 1) := by decide +kernel
theorem dX1_readBracket_53 : decode cX1_readBracket 53 = .ok (.putfield 41, 3) := by decide +kernel
theorem dX1_readBracket_56 : decode cX1_readBracket 56 = .ok (.iconst 1, 1) := by decide +kernel
theorem dX1_readBracket_57 : decode cX1_readBracket 57 = .ok (.ireturn, 1) := by decide +kernel
theorem dX1_isDigit_0 : decode cX1_isDigit 0 = .ok (.iload_n 0, 1) := by decide +kernel
theorem dX1_isDigit_1 : decode cX1_isDigit 1 = .ok (.bipush 48, 2) := by decide +kernel
theorem dX1_isDigit_3 : decode cX1_isDigit 3 = .ok (.if_icmp .lt 13, 3) := by decide +kernel
theorem dX1_isDigit_6 : decode cX1_isDigit 6 = .ok (.iload_n 0, 1) := by decide +kernel
theorem dX1_isDigit_7 : decode cX1_isDigit 7 = .ok (.bipush 57, 2) := by decide +kernel
theorem dX1_isDigit_9 : decode cX1_isDigit 9 = .ok (.if_icmp .gt 7, 3) := by decide +kernel
theorem dX1_isDigit_12 : decode cX1_isDigit 12 = .ok (.iconst 1, 1) := by decide +kernel
theorem dX1_isDigit_13 : decode cX1_isDigit 13 = .ok (.goto 4, 3) := by decide +kernel
theorem dX1_isDigit_16 : decode cX1_isDigit 16 = .ok (.iconst 0, 1) := by decide +kernel
theorem dX1_isDigit_17 : decode cX1_isDigit 17 = .ok (.ireturn, 1) := by decide +kernel
theorem dX2_init_0 : decode cX2_init 0 = .ok (.aload_n 0, 1) := by decide +kernel
theorem dX2_init_1 : decode cX2_init 1 = .ok (.invokespecial 3, 3) := by decide +kernel
theorem dX2_init_4 : decode cX2_init 4 = .ok (.aload_n 0, 1) := by decide +kernel
theorem dX2_init_5 : decode cX2_init 5 = .ok (.bipush 24, 2) := by decide +kernel
theorem dX2_init_7 : decode cX2_init 7 = .ok (.newarray .int, 2) := by decide +kernel
theorem dX2_init_9 : decode cX2_init 9 = .ok (.putfield 9, 3) := by decide +kernel
theorem dX2_init_12 : decode cX2_init 12 = .ok (.return_, 1) := by decide +kernel
theorem dX2_begin_0 : decode cX2_begin 0 = .ok (.aload_n 0, 1) := by decide +kernel
theorem dX2_begin_1 : decode cX2_begin 1 = .ok (.iload_n 1, 1) := by decide +kernel
theorem dX2_begin_2 : decode cX2_begin 2 = .ok (.putfield 15, 3) := by decide +kernel
theorem dX2_begin_5 : decode cX2_begin 5 = .ok (.aload_n 0, 1) := by decide +kernel
theorem dX2_begin_6 : decode cX2_begin 6 = .ok (.iload_n 2, 1) := by decide +kernel
theorem dX2_begin_7 : decode cX2_begin 7 = .ok (.putfield 19, 3) := by decide +kernel
theorem dX2_begin_10 : decode cX2_begin 10 = .ok (.iconst 0, 1) := by decide +kernel
theorem dX2_begin_11 : decode cX2_begin 11 = .ok (.istore_n 3, 1) := by decide +kernel
theorem dX2_begin_12 : decode cX2_begin 12 = .ok (.iload_n 3, 1) := by decide +kernel
theorem dX2_begin_13 : decode cX2_begin 13 = .ok (.bipush 24, 2) := by decide +kernel
theorem dX2_begin_15 : decode cX2_begin 15 = .ok (.if_icmp .ge 16, 3) := by decide +kernel
theorem dX2_begin_18 : decode cX2_begin 18 = .ok (.aload_n 0, 1) := by decide +kernel
theorem dX2_begin_19 : decode cX2_begin 19 = .ok (.getfield 9, 3) := by decide +kernel
theorem dX2_begin_22 : decode cX2_begin 22 = .ok (.iload_n 3, 1) := by decide +kernel
theorem dX2_begin_23 : decode cX2_begin 23 = .ok (.iconst 0, 1) := by decide +kernel
theorem dX2_begin_24 : decode cX2_begin 24 = .ok (.iastore, 1) := by decide +kernel
theorem dX2_begin_25 : decode cX2_begin 25 = .ok (.iinc 3 1, 3) := by decide +kernel
theorem dX2_begin_28 : decode cX2_begin 28 = .ok (.goto (-16), 3) := by decide +kernel
theorem dX2_begin_31 : decode cX2_begin 31 = .ok (.return_, 1) := by decide +kernel
theorem dX2_isMissing_0 : decode cX2_isMissing 0 = .ok (.aload_n 0, 1) := by decide +kernel
theorem dX2_isMissing_1 : decode cX2_isMissing 1 = .ok (.getfield 15, 3) := by decide +kernel
theorem dX2_isMissing_4 : decode cX2_isMissing 4 = .ok (.ifCond .ne 7, 3) := by decide +kernel
theorem dX2_isMissing_7 : decode cX2_isMissing 7 = .ok (.iconst 1, 1) := by decide +kernel
theorem dX2_isMissing_8 : decode cX2_isMissing 8 = .ok (.goto 4, 3) := by decide +kernel
theorem dX2_isMissing_11 : decode cX2_isMissing 11 = .ok (.iconst 0, 1) := by decide +kernel
theorem dX2_isMissing_12 : decode cX2_isMissing 12 = .ok (.ireturn, 1) := by decide +kernel
theorem dX2_write_0 : decode cX2_write 0 = .ok (.iload_n 1, 1) := by decide +kernel
theorem dX2_write_1 : decode cX2_write 1 = .ok (.iconst 0, 1) := by decide +kernel
theorem dX2_write_2 : decode cX2_write 2 = .ok (.bipush 23, 2) := by decide +kernel
theorem dX2_write_4 : decode cX2_write 4 = .ok (.invokestatic 22, 3) := by decide +kernel
theorem dX2_write_7 : decode cX2_write 7 = .ok (.ifCond .eq 38, 3) := by decide +kernel
theorem dX2_write_10 : decode cX2_write 10 = .ok (.aload_n 0, 1) := by decide +kernel
theorem dX2_write_11 : decode cX2_write 11 = .ok (.getfield 9, 3) := by decide +kernel
theorem dX2_write_14 : decode cX2_write 14 = .ok (.iload_n 1, 1) := by decide +kernel
theorem dX2_write_15 : decode cX2_write 15 = .ok (.aload_n 0, 1) := by decide +kernel
theorem dX2_write_16 : decode cX2_write 16 = .ok (.getfield 15, 3) := by decide +kernel
theorem dX2_write_19 : decode cX2_write 19 = .ok (.bipush 8, 2) := by decide +kernel
theorem dX2_write_21 : decode cX2_write 21 = .ok (.if_icmp .ne 8, 3) := by decide +kernel
theorem dX2_write_24 : decode cX2_write 24 = .ok (.iload_n 2, 1) := by decide +kernel
theorem dX2_write_25 : decode cX2_write 25 = .ok (.i2b, 1) := by decide +kernel
theorem dX2_write_26 : decode cX2_write 26 = .ok (.goto 18, 3) := by decide +kernel
theorem dX2_write_29 : decode cX2_write 29 = .ok (.aload_n 0, 1) := by decide +kernel
theorem dX2_write_30 : decode cX2_write 30 = .ok (.getfield 15, 3) := by decide +kernel
theorem dX2_write_33 : decode cX2_write 33 = .ok (.bipush 16, 2) := by decide +kernel
theorem dX2_write_35 : decode cX2_write 35 = .ok (.if_icmp .ne 8, 3) := by decide +kernel
theorem dX2_write_38 : decode cX2_write 38 = .ok (.iload_n 2, 1) := by decide +kernel
theorem dX2_write_39 : decode cX2_write 39 = .ok (.i2s, 1) := by decide +kernel
theorem dX2_write_40 : decode cX2_write 40 = .ok (.goto 4, 3) := by decide +kernel
theorem dX2_write_43 : decode cX2_write 43 = .ok (.iload_n 2, 1) := by decide +kernel
theorem dX2_write_44 : decode cX2_write 44 = .ok (.iastore, 1) := by decide +kernel
theorem dX2_write_45 : decode cX2_write 45 = .ok (.return_, 1) := by decide +kernel
theorem dX2_hasRow_0 : decode cX2_hasRow 0 = .ok (.iload_n 1, 1) := by decide +kernel
theorem dX2_hasRow_1 : decode cX2_hasRow 1 = .ok (.ifCond .lt 29, 3) := by decide +kernel
theorem dX2_hasRow_4 : decode cX2_hasRow 4 = .ok (.iload_n 2, 1) := by decide +kernel
theorem dX2_hasRow_5 : decode cX2_hasRow 5 = .ok (.ifCond .lt 25, 3) := by decide +kernel
theorem dX2_hasRow_8 : decode cX2_hasRow 8 = .ok (.iload_n 2, 1) := by decide +kernel
theorem dX2_hasRow_9 : decode cX2_hasRow 9 = .ok (.aload_n 0, 1) := by decide +kernel
theorem dX2_hasRow_10 : decode cX2_hasRow 10 = .ok (.getfield 19, 3) := by decide +kernel
theorem dX2_hasRow_13 : decode cX2_hasRow 13 = .ok (.if_icmp .gt 17, 3) := by decide +kernel
theorem dX2_hasRow_16 : decode cX2_hasRow 16 = .ok (.iload_n 1, 1) := by decide +kernel
theorem dX2_hasRow_17 : decode cX2_hasRow 17 = .ok (.aload_n 0, 1) := by decide +kernel
theorem dX2_hasRow_18 : decode cX2_hasRow 18 = .ok (.getfield 19, 3) := by decide +kernel
theorem dX2_hasRow_21 : decode cX2_hasRow 21 = .ok (.iload_n 2, 1) := by decide +kernel
theorem dX2_hasRow_22 : decode cX2_hasRow 22 = .ok (.isub, 1) := by decide +kernel
theorem dX2_hasRow_23 : decode cX2_hasRow 23 = .ok (.if_icmp .gt 7, 3) := by decide +kernel
theorem dX2_hasRow_26 : decode cX2_hasRow 26 = .ok (.iconst 1, 1) := by decide +kernel
theorem dX2_hasRow_27 : decode cX2_hasRow 27 = .ok (.goto 4, 3) := by decide +kernel
theorem dX2_hasRow_30 : decode cX2_hasRow 30 = .ok (.iconst 0, 1) := by decide +kernel
theorem dX2_hasRow_31 : decode cX2_hasRow 31 = .ok (.ireturn, 1) := by decide +kernel
theorem dX3_init_0 : decode cX3_init 0 = .ok (.aload_n 0, 1) := by decide +kernel
theorem dX3_init_1 : decode cX3_init 1 = .ok (.invokespecial 3, 3) := by decide +kernel
theorem dX3_init_4 : decode cX3_init 4 = .ok (.aload_n 0, 1) := by decide +kernel
theorem dX3_init_5 : decode cX3_init 5 = .ok (.bipush 60, 2) := by decide +kernel
theorem dX3_init_7 : decode cX3_init 7 = .ok (.newarray .int, 2) := by decide +kernel
theorem dX3_init_9 : decode cX3_init 9 = .ok (.putfield 9, 3) := by decide +kernel
theorem dX3_init_12 : decode cX3_init 12 = .ok (.aload_n 0, 1) := by decide +kernel
theorem dX3_init_13 : decode cX3_init 13 = .ok (.bipush 60, 2) := by decide +kernel
theorem dX3_init_15 : decode cX3_init 15 = .ok (.newarray .int, 2) := by decide +kernel
theorem dX3_init_17 : decode cX3_init 17 = .ok (.putfield 15, 3) := by decide +kernel
theorem dX3_init_20 : decode cX3_init 20 = .ok (.aload_n 0, 1) := by decide +kernel
theorem dX3_init_21 : decode cX3_init 21 = .ok (.bipush 60, 2) := by decide +kernel
theorem dX3_init_23 : decode cX3_init 23 = .ok (.newarray .int, 2) := by decide +kernel
theorem dX3_init_25 : decode cX3_init 25 = .ok (.putfield 18, 3) := by decide +kernel
theorem dX3_init_28 : decode cX3_init 28 = .ok (.return_, 1) := by decide +kernel
theorem dX3_clear_0 : decode cX3_clear 0 = .ok (.aload_n 0, 1) := by decide +kernel
theorem dX3_clear_1 : decode cX3_clear 1 = .ok (.iconst 0, 1) := by decide +kernel
theorem dX3_clear_2 : decode cX3_clear 2 = .ok (.putfield 21, 3) := by decide +kernel
theorem dX3_clear_5 : decode cX3_clear 5 = .ok (.return_, 1) := by decide +kernel
theorem dX3_isThere_0 : decode cX3_isThere 0 = .ok (.aload_n 0, 1) := by decide +kernel
theorem dX3_isThere_1 : decode cX3_isThere 1 = .ok (.getfield 21, 3) := by decide +kernel
theorem dX3_isThere_4 : decode cX3_isThere 4 = .ok (.ifCond .le 7, 3) := by decide +kernel
theorem dX3_isThere_7 : decode cX3_isThere 7 = .ok (.iconst 1, 1) := by decide +kernel
theorem dX3_isThere_8 : decode cX3_isThere 8 = .ok (.goto 4, 3) := by decide +kernel
theorem dX3_isThere_11 : decode cX3_isThere 11 = .ok (.iconst 0, 1) := by decide +kernel
theorem dX3_isThere_12 : decode cX3_isThere 12 = .ok (.ireturn, 1) := by decide +kernel
theorem dX3_copyFrom_0 : decode cX3_copyFrom 0 = .ok (.aload_n 1, 1) := by decide +kernel
theorem dX3_copyFrom_1 : decode cX3_copyFrom 1 = .ok (.getfield 9, 3) := by decide +kernel
theorem dX3_copyFrom_4 : decode cX3_copyFrom 4 = .ok (.iconst 0, 1) := by decide +kernel
theorem dX3_copyFrom_5 : decode cX3_copyFrom 5 = .ok (.aload_n 0, 1) := by decide +kernel
theorem dX3_copyFrom_6 : decode cX3_copyFrom 6 = .ok (.getfield 9, 3) := by decide +kernel
theorem dX3_copyFrom_9 : decode cX3_copyFrom 9 = .ok (.iconst 0, 1) := by decide +kernel
theorem dX3_copyFrom_10 : decode cX3_copyFrom 10 = .ok (.aload_n 0, 1) := by decide +kernel
theorem dX3_copyFrom_11 : decode cX3_copyFrom 11 = .ok (.getfield 9, 3) := by decide +kernel
theorem dX3_copyFrom_14 : decode cX3_copyFrom 14 = .ok (.arraylength, 1) := by decide +kernel
theorem dX3_copyFrom_15 : decode cX3_copyFrom 15 = .ok (.invokestatic 25, 3) := by decide +kernel
theorem dX3_copyFrom_18 : decode cX3_copyFrom 18 = .ok (.aload_n 1, 1) := by decide +kernel
theorem dX3_copyFrom_19 : decode cX3_copyFrom 19 = .ok (.getfield 15, 3) := by decide +kernel
theorem dX3_copyFrom_22 : decode cX3_copyFrom 22 = .ok (.iconst 0, 1) := by decide +kernel
theorem dX3_copyFrom_23 : decode cX3_copyFrom 23 = .ok (.aload_n 0, 1) := by decide +kernel
theorem dX3_copyFrom_24 : decode cX3_copyFrom 24 = .ok (.getfield 15, 3) := by decide +kernel
theorem dX3_copyFrom_27 : decode cX3_copyFrom 27 = .ok (.iconst 0, 1) := by decide +kernel
theorem dX3_copyFrom_28 : decode cX3_copyFrom 28 = .ok (.aload_n 0, 1) := by decide +kernel
theorem dX3_copyFrom_29 : decode cX3_copyFrom 29 = .ok (.getfield 15, 3) := by decide +kernel
theorem dX3_copyFrom_32 : decode cX3_copyFrom 32 = .ok (.arraylength, 1) := by decide +kernel
theorem dX3_copyFrom_33 : decode cX3_copyFrom 33 = .ok (.invokestatic 25, 3) := by decide +kernel
theorem dX3_copyFrom_36 : decode cX3_copyFrom 36 = .ok (.aload_n 0, 1) := by decide +kernel
theorem dX3_copyFrom_37 : decode cX3_copyFrom 37 = .ok (.aload_n 1, 1) := by decide +kernel
theorem dX3_copyFrom_38 : decode cX3_copyFrom 38 = .ok (.getfield 21, 3) := by decide +kernel
theorem dX3_copyFrom_41 : decode cX3_copyFrom 41 = .ok (.putfield 21, 3) := by decide +kernel
theorem dX3_copyFrom_44 : decode cX3_copyFrom 44 = .ok (.return_, 1) := by decide +kernel
theorem dX3_add_0 : decode cX3_add 0 = .ok (.aload_n 0, 1) := by decide +kernel
theorem dX3_add_1 : decode cX3_add 1 = .ok (.getfield 21, 3) := by decide +kernel
theorem dX3_add_4 : decode cX3_add 4 = .ok (.bipush 60, 2) := by decide +kernel
theorem dX3_add_6 : decode cX3_add 6 = .ok (.if_icmp .ge 33, 3) := by decide +kernel
theorem dX3_add_9 : decode cX3_add 9 = .ok (.aload_n 0, 1) := by decide +kernel
theorem dX3_add_10 : decode cX3_add 10 = .ok (.getfield 9, 3) := by decide +kernel
theorem dX3_add_13 : decode cX3_add 13 = .ok (.aload_n 0, 1) := by decide +kernel
theorem dX3_add_14 : decode cX3_add 14 = .ok (.getfield 21, 3) := by decide +kernel
theorem dX3_add_17 : decode cX3_add 17 = .ok (.iload_n 1, 1) := by decide +kernel
theorem dX3_add_18 : decode cX3_add 18 = .ok (.iastore, 1) := by decide +kernel
theorem dX3_add_19 : decode cX3_add 19 = .ok (.aload_n 0, 1) := by decide +kernel
theorem dX3_add_20 : decode cX3_add 20 = .ok (.getfield 15, 3) := by decide +kernel
theorem dX3_add_23 : decode cX3_add 23 = .ok (.aload_n 0, 1) := by decide +kernel
theorem dX3_add_24 : decode cX3_add 24 = .ok (.getfield 21, 3) := by decide +kernel
theorem dX3_add_27 : decode cX3_add 27 = .ok (.iload_n 2, 1) := by decide +kernel
theorem dX3_add_28 : decode cX3_add 28 = .ok (.iastore, 1) := by decide +kernel
theorem dX3_add_29 : decode cX3_add 29 = .ok (.aload_n 0, 1) := by decide +kernel
theorem dX3_add_30 : decode cX3_add 30 = .ok (.dup, 1) := by decide +kernel
theorem dX3_add_31 : decode cX3_add 31 = .ok (.getfield 21, 3) := by decide +kernel
theorem dX3_add_34 : decode cX3_add 34 = .ok (.iconst 1, 1) := by decide +kernel
theorem dX3_add_35 : decode cX3_add 35 = .ok (.iadd, 1) := by decide +kernel
theorem dX3_add_36 : decode cX3_add 36 = .ok (.putfield 21, 3) := by decide +kernel
theorem dX3_add_39 : decode cX3_add 39 = .ok (.return_, 1) := by decide +kernel
theorem dX3_workedOut_0 : decode cX3_workedOut 0 = .ok (.iconst 0, 1) := by decide +kernel
theorem dX3_workedOut_1 : decode cX3_workedOut 1 = .ok (.istore 4, 2) := by decide +kernel
theorem dX3_workedOut_3 : decode cX3_workedOut 3 = .ok (.iconst 0, 1) := by decide +kernel
theorem dX3_workedOut_4 : decode cX3_workedOut 4 = .ok (.istore 5, 2) := by decide +kernel
theorem dX3_workedOut_6 : decode cX3_workedOut 6 = .ok (.iload 5, 2) := by decide +kernel
theorem dX3_workedOut_8 : decode cX3_workedOut 8 = .ok (.aload_n 0, 1) := by decide +kernel
theorem dX3_workedOut_9 : decode cX3_workedOut 9 = .ok (.getfield 21, 3) := by decide +kernel
theorem dX3_workedOut_12 : decode cX3_workedOut 12 = .ok (.if_icmp .ge 160, 3) := by decide +kernel
theorem dX3_workedOut_15 : decode cX3_workedOut 15 = .ok (.aload_n 0, 1) := by decide +kernel
theorem dX3_workedOut_16 : decode cX3_workedOut 16 = .ok (.getfield 9, 3) := by decide +kernel
theorem dX3_workedOut_19 : decode cX3_workedOut 19 = .ok (.iload 5, 2) := by decide +kernel
theorem dX3_workedOut_21 : decode cX3_workedOut 21 = .ok (.iaload, 1) := by decide +kernel
theorem dX3_workedOut_22 : decode cX3_workedOut 22 = .ok (.istore 6, 2) := by decide +kernel
theorem dX3_workedOut_24 : decode cX3_workedOut 24 = .ok (.iload 6, 2) := by decide +kernel
theorem dX3_workedOut_26 : decode cX3_workedOut 26 = .ok (.iconst 1, 1) := by decide +kernel
theorem dX3_workedOut_27 : decode cX3_workedOut 27 = .ok (.if_icmp .eq 9, 3) := by decide +kernel
theorem dX3_workedOut_30 : decode cX3_workedOut 30 = .ok (.iload 6, 2) := by decide +kernel
theorem dX3_workedOut_32 : decode cX3_workedOut 32 = .ok (.iconst 2, 1) := by decide +kernel
theorem dX3_workedOut_33 : decode cX3_workedOut 33 = .ok (.if_icmp .ne 52, 3) := by decide +kernel
theorem dX3_workedOut_36 : decode cX3_workedOut 36 = .ok (.iload 4, 2) := by decide +kernel
theorem dX3_workedOut_38 : decode cX3_workedOut 38 = .ok (.bipush 60, 2) := by decide +kernel
theorem dX3_workedOut_40 : decode cX3_workedOut 40 = .ok (.if_icmp .ge 126, 3) := by decide +kernel
theorem dX3_workedOut_43 : decode cX3_workedOut 43 = .ok (.aload_n 0, 1) := by decide +kernel
theorem dX3_workedOut_44 : decode cX3_workedOut 44 = .ok (.getfield 18, 3) := by decide +kernel
theorem dX3_workedOut_47 : decode cX3_workedOut 47 = .ok (.iload 4, 2) := by decide +kernel
theorem dX3_workedOut_49 : decode cX3_workedOut 49 = .ok (.iload 6, 2) := by decide +kernel
theorem dX3_workedOut_51 : decode cX3_workedOut 51 = .ok (.iconst 1, 1) := by decide +kernel
theorem dX3_workedOut_52 : decode cX3_workedOut 52 = .ok (.if_icmp .ne 13, 3) := by decide +kernel
theorem dX3_workedOut_55 : decode cX3_workedOut 55 = .ok (.aload_n 0, 1) := by decide +kernel
theorem dX3_workedOut_56 : decode cX3_workedOut 56 = .ok (.getfield 15, 3) := by decide +kernel
theorem dX3_workedOut_59 : decode cX3_workedOut 59 = .ok (.iload 5, 2) := by decide +kernel
theorem dX3_workedOut_61 : decode cX3_workedOut 61 = .ok (.iaload, 1) := by decide +kernel
theorem dX3_workedOut_62 : decode cX3_workedOut 62 = .ok (.goto 16, 3) := by decide +kernel
theorem dX3_workedOut_65 : decode cX3_workedOut 65 = .ok (.aload_n 0, 1) := by decide +kernel
theorem dX3_workedOut_66 : decode cX3_workedOut 66 = .ok (.getfield 15, 3) := by decide +kernel
theorem dX3_workedOut_69 : decode cX3_workedOut 69 = .ok (.iload 5, 2) := by decide +kernel
theorem dX3_workedOut_71 : decode cX3_workedOut 71 = .ok (.iaload, 1) := by decide +kernel
theorem dX3_workedOut_72 : decode cX3_workedOut 72 = .ok (.iload_n 1, 1) := by decide +kernel
theorem dX3_workedOut_73 : decode cX3_workedOut 73 = .ok (.iload_n 2, 1) := by decide +kernel
theorem dX3_workedOut_74 : decode cX3_workedOut 74 = .ok (.iload_n 3, 1) := by decide +kernel
theorem dX3_workedOut_75 : decode cX3_workedOut 75 = .ok (.invokestatic 31, 3) := by decide +kernel
theorem dX3_workedOut_78 : decode cX3_workedOut 78 = .ok (.iastore, 1) := by decide +kernel
theorem dX3_workedOut_79 : decode cX3_workedOut 79 = .ok (.iinc 4 1, 3) := by decide +kernel
theorem dX3_workedOut_82 : decode cX3_workedOut 82 = .ok (.goto 84, 3) := by decide +kernel
theorem dX3_workedOut_85 : decode cX3_workedOut 85 = .ok (.iload 6, 2) := by decide +kernel
theorem dX3_workedOut_87 : decode cX3_workedOut 87 = .ok (.bipush 33, 2) := by decide +kernel
theorem dX3_workedOut_89 : decode cX3_workedOut 89 = .ok (.if_icmp .ne 38, 3) := by decide +kernel
theorem dX3_workedOut_92 : decode cX3_workedOut 92 = .ok (.iload 4, 2) := by decide +kernel
theorem dX3_workedOut_94 : decode cX3_workedOut 94 = .ok (.iconst 1, 1) := by decide +kernel
theorem dX3_workedOut_95 : decode cX3_workedOut 95 = .ok (.if_icmp .lt 71, 3) := by decide +kernel
theorem dX3_workedOut_98 : decode cX3_workedOut 98 = .ok (.aload_n 0, 1) := by decide +kernel
theorem dX3_workedOut_99 : decode cX3_workedOut 99 = .ok (.getfield 18, 3) := by decide +kernel
theorem dX3_workedOut_102 : decode cX3_workedOut 102 = .ok (.iload 4, 2) := by decide +kernel
theorem dX3_workedOut_104 : decode cX3_workedOut 104 = .ok (.iconst 1, 1) := by decide +kernel
theorem dX3_workedOut_105 : decode cX3_workedOut 105 = .ok (.isub, 1) := by decide +kernel
theorem dX3_workedOut_106 : decode cX3_workedOut 106 = .ok (.aload_n 0, 1) := by decide +kernel
theorem dX3_workedOut_107 : decode cX3_workedOut 107 = .ok (.getfield 18, 3) := by decide +kernel
theorem dX3_workedOut_110 : decode cX3_workedOut 110 = .ok (.iload 4, 2) := by decide +kernel
theorem dX3_workedOut_112 : decode cX3_workedOut 112 = .ok (.iconst 1, 1) := by decide +kernel
theorem dX3_workedOut_113 : decode cX3_workedOut 113 = .ok (.isub, 1) := by decide +kernel
theorem dX3_workedOut_114 : decode cX3_workedOut 114 = .ok (.iaload, 1) := by decide +kernel
theorem dX3_workedOut_115 : decode cX3_workedOut 115 = .ok (.ifCond .ne 7, 3) := by decide +kernel
theorem dX3_workedOut_118 : decode cX3_workedOut 118 = .ok (.iconst 1, 1) := by decide +kernel
theorem dX3_workedOut_119 : decode cX3_workedOut 119 = .ok (.goto 4, 3) := by decide +kernel
theorem dX3_workedOut_122 : decode cX3_workedOut 122 = .ok (.iconst 0, 1) := by decide +kernel
theorem dX3_workedOut_123 : decode cX3_workedOut 123 = .ok (.iastore, 1) := by decide +kernel
theorem dX3_workedOut_124 : decode cX3_workedOut 124 = .ok (.goto 42, 3) := by decide +kernel
theorem dX3_workedOut_127 : decode cX3_workedOut 127 = .ok (.iload 4, 2) := by decide +kernel
theorem dX3_workedOut_129 : decode cX3_workedOut 129 = .ok (.iconst 2, 1) := by decide +kernel
theorem dX3_workedOut_130 : decode cX3_workedOut 130 = .ok (.if_icmp .lt 36, 3) := by decide +kernel
theorem dX3_workedOut_133 : decode cX3_workedOut 133 = .ok (.iinc 4 (-1), 3) := by decide +kernel
theorem dX3_workedOut_136 : decode cX3_workedOut 136 = .ok (.aload_n 0, 1) := by decide +kernel
theorem dX3_workedOut_137 : decode cX3_workedOut 137 = .ok (.getfield 18, 3) := by decide +kernel
theorem dX3_workedOut_140 : decode cX3_workedOut 140 = .ok (.iload 4, 2) := by decide +kernel
theorem dX3_workedOut_142 : decode cX3_workedOut 142 = .ok (.iconst 1, 1) := by decide +kernel
theorem dX3_workedOut_143 : decode cX3_workedOut 143 = .ok (.isub, 1) := by decide +kernel
theorem dX3_workedOut_144 : decode cX3_workedOut 144 = .ok (.iload 6, 2) := by decide +kernel
theorem dX3_workedOut_146 : decode cX3_workedOut 146 = .ok (.aload_n 0, 1) := by decide +kernel
theorem dX3_workedOut_147 : decode cX3_workedOut 147 = .ok (.getfield 18, 3) := by decide +kernel
theorem dX3_workedOut_150 : decode cX3_workedOut 150 = .ok (.iload 4, 2) := by decide +kernel
theorem dX3_workedOut_152 : decode cX3_workedOut 152 = .ok (.iconst 1, 1) := by decide +kernel
theorem dX3_workedOut_153 : decode cX3_workedOut 153 = .ok (.isub, 1) := by decide +kernel
theorem dX3_workedOut_154 : decode cX3_workedOut 154 = .ok (.iaload, 1) := by decide +kernel
theorem dX3_workedOut_155 : decode cX3_workedOut 155 = .ok (.aload_n 0, 1) := by decide +kernel
theorem dX3_workedOut_156 : decode cX3_workedOut 156 = .ok (.getfield 18, 3) := by decide +kernel
theorem dX3_workedOut_159 : decode cX3_workedOut 159 = .ok (.iload 4, 2) := by decide +kernel
theorem dX3_workedOut_161 : decode cX3_workedOut 161 = .ok (.iaload, 1) := by decide +kernel
theorem dX3_workedOut_162 : decode cX3_workedOut 162 = .ok (.invokestatic 35, 3) := by decide +kernel
theorem dX3_workedOut_165 : decode cX3_workedOut 165 = .ok (.iastore, 1) := by decide +kernel
theorem dX3_workedOut_166 : decode cX3_workedOut 166 = .ok (.iinc 5 1, 3) := by decide +kernel
theorem dX3_workedOut_169 : decode cX3_workedOut 169 = .ok (.goto (-163), 3) := by decide +kernel
theorem dX3_workedOut_172 : decode cX3_workedOut 172 = .ok (.iload 4, 2) := by decide +kernel
theorem dX3_workedOut_174 : decode cX3_workedOut 174 = .ok (.ifCond .le 12, 3) := by decide +kernel
theorem dX3_workedOut_177 : decode cX3_workedOut 177 = .ok (.aload_n 0, 1) := by decide +kernel
theorem dX3_workedOut_178 : decode cX3_workedOut 178 = .ok (.getfield 18, 3) := by decide +kernel
theorem dX3_workedOut_181 : decode cX3_workedOut 181 = .ok (.iconst 0, 1) := by decide +kernel
theorem dX3_workedOut_182 : decode cX3_workedOut 182 = .ok (.iaload, 1) := by decide +kernel
theorem dX3_workedOut_183 : decode cX3_workedOut 183 = .ok (.goto 4, 3) := by decide +kernel
theorem dX3_workedOut_186 : decode cX3_workedOut 186 = .ok (.iconst 0, 1) := by decide +kernel
theorem dX3_workedOut_187 : decode cX3_workedOut 187 = .ok (.ireturn, 1) := by decide +kernel
theorem dX3_named_0 : decode cX3_named 0 = .ok (.iload_n 0, 1) := by decide +kernel
theorem dX3_named_1 : decode cX3_named 1 = .ok (.ifCond .ne 7, 3) := by decide +kernel
theorem dX3_named_4 : decode cX3_named 4 = .ok (.iload_n 1, 1) := by decide +kernel
theorem dX3_named_5 : decode cX3_named 5 = .ok (.goto 13, 3) := by decide +kernel
theorem dX3_named_8 : decode cX3_named 8 = .ok (.iload_n 0, 1) := by decide +kernel
theorem dX3_named_9 : decode cX3_named 9 = .ok (.iconst 1, 1) := by decide +kernel
theorem dX3_named_10 : decode cX3_named 10 = .ok (.if_icmp .ne 7, 3) := by decide +kernel
theorem dX3_named_13 : decode cX3_named 13 = .ok (.iload_n 2, 1) := by decide +kernel
theorem dX3_named_14 : decode cX3_named 14 = .ok (.goto 4, 3) := by decide +kernel
theorem dX3_named_17 : decode cX3_named 17 = .ok (.iload_n 3, 1) := by decide +kernel
theorem dX3_named_18 : decode cX3_named 18 = .ok (.ireturn, 1) := by decide +kernel
theorem dX3_joined_0 : decode cX3_joined 0 = .ok (.iload_n 0, 1) := by decide +kernel
theorem dX3_joined_1 : decode cX3_joined 1 = .ok (.lookupswitch 188 #[(37, 176), (38, 105), (42, 160), (43, 152), (45, 156), (47, 164), (60, 119), (61, 130), (62, 141), (124, 91)], 91) := by decide +kernel
theorem dX3_joined_92 : decode cX3_joined 92 = .ok (.iload_n 1, 1) := by decide +kernel
theorem dX3_joined_93 : decode cX3_joined 93 = .ok (.ifCond .ne 7, 3) := by decide +kernel
theorem dX3_joined_96 : decode cX3_joined 96 = .ok (.iload_n 2, 1) := by decide +kernel
theorem dX3_joined_97 : decode cX3_joined 97 = .ok (.ifCond .eq 7, 3) := by decide +kernel
theorem dX3_joined_100 : decode cX3_joined 100 = .ok (.iconst 1, 1) := by decide +kernel
theorem dX3_joined_101 : decode cX3_joined 101 = .ok (.goto 4, 3) := by decide +kernel
theorem dX3_joined_104 : decode cX3_joined 104 = .ok (.iconst 0, 1) := by decide +kernel
theorem dX3_joined_105 : decode cX3_joined 105 = .ok (.ireturn, 1) := by decide +kernel
theorem dX3_joined_106 : decode cX3_joined 106 = .ok (.iload_n 1, 1) := by decide +kernel
theorem dX3_joined_107 : decode cX3_joined 107 = .ok (.ifCond .eq 11, 3) := by decide +kernel
theorem dX3_joined_110 : decode cX3_joined 110 = .ok (.iload_n 2, 1) := by decide +kernel
theorem dX3_joined_111 : decode cX3_joined 111 = .ok (.ifCond .eq 7, 3) := by decide +kernel
theorem dX3_joined_114 : decode cX3_joined 114 = .ok (.iconst 1, 1) := by decide +kernel
theorem dX3_joined_115 : decode cX3_joined 115 = .ok (.goto 4, 3) := by decide +kernel
theorem dX3_joined_118 : decode cX3_joined 118 = .ok (.iconst 0, 1) := by decide +kernel
theorem dX3_joined_119 : decode cX3_joined 119 = .ok (.ireturn, 1) := by decide +kernel
theorem dX3_joined_120 : decode cX3_joined 120 = .ok (.iload_n 1, 1) := by decide +kernel
theorem dX3_joined_121 : decode cX3_joined 121 = .ok (.iload_n 2, 1) := by decide +kernel
theorem dX3_joined_122 : decode cX3_joined 122 = .ok (.if_icmp .ge 7, 3) := by decide +kernel
theorem dX3_joined_125 : decode cX3_joined 125 = .ok (.iconst 1, 1) := by decide +kernel
theorem dX3_joined_126 : decode cX3_joined 126 = .ok (.goto 4, 3) := by decide +kernel
theorem dX3_joined_129 : decode cX3_joined 129 = .ok (.iconst 0, 1) := by decide +kernel
theorem dX3_joined_130 : decode cX3_joined 130 = .ok (.ireturn, 1) := by decide +kernel
theorem dX3_joined_131 : decode cX3_joined 131 = .ok (.iload_n 1, 1) := by decide +kernel
theorem dX3_joined_132 : decode cX3_joined 132 = .ok (.iload_n 2, 1) := by decide +kernel
theorem dX3_joined_133 : decode cX3_joined 133 = .ok (.if_icmp .ne 7, 3) := by decide +kernel
theorem dX3_joined_136 : decode cX3_joined 136 = .ok (.iconst 1, 1) := by decide +kernel
theorem dX3_joined_137 : decode cX3_joined 137 = .ok (.goto 4, 3) := by decide +kernel
theorem dX3_joined_140 : decode cX3_joined 140 = .ok (.iconst 0, 1) := by decide +kernel
theorem dX3_joined_141 : decode cX3_joined 141 = .ok (.ireturn, 1) := by decide +kernel
theorem dX3_joined_142 : decode cX3_joined 142 = .ok (.iload_n 1, 1) := by decide +kernel
theorem dX3_joined_143 : decode cX3_joined 143 = .ok (.iload_n 2, 1) := by decide +kernel
theorem dX3_joined_144 : decode cX3_joined 144 = .ok (.if_icmp .le 7, 3) := by decide +kernel
theorem dX3_joined_147 : decode cX3_joined 147 = .ok (.iconst 1, 1) := by decide +kernel
theorem dX3_joined_148 : decode cX3_joined 148 = .ok (.goto 4, 3) := by decide +kernel
theorem dX3_joined_151 : decode cX3_joined 151 = .ok (.iconst 0, 1) := by decide +kernel
theorem dX3_joined_152 : decode cX3_joined 152 = .ok (.ireturn, 1) := by decide +kernel
theorem dX3_joined_153 : decode cX3_joined 153 = .ok (.iload_n 1, 1) := by decide +kernel
theorem dX3_joined_154 : decode cX3_joined 154 = .ok (.iload_n 2, 1) := by decide +kernel
theorem dX3_joined_155 : decode cX3_joined 155 = .ok (.iadd, 1) := by decide +kernel
theorem dX3_joined_156 : decode cX3_joined 156 = .ok (.ireturn, 1) := by decide +kernel
theorem dX3_joined_157 : decode cX3_joined 157 = .ok (.iload_n 1, 1) := by decide +kernel
theorem dX3_joined_158 : decode cX3_joined 158 = .ok (.iload_n 2, 1) := by decide +kernel
theorem dX3_joined_159 : decode cX3_joined 159 = .ok (.isub, 1) := by decide +kernel
theorem dX3_joined_160 : decode cX3_joined 160 = .ok (.ireturn, 1) := by decide +kernel
theorem dX3_joined_161 : decode cX3_joined 161 = .ok (.iload_n 1, 1) := by decide +kernel
theorem dX3_joined_162 : decode cX3_joined 162 = .ok (.iload_n 2, 1) := by decide +kernel
theorem dX3_joined_163 : decode cX3_joined 163 = .ok (.imul, 1) := by decide +kernel
theorem dX3_joined_164 : decode cX3_joined 164 = .ok (.ireturn, 1) := by decide +kernel
theorem dX3_joined_165 : decode cX3_joined 165 = .ok (.iload_n 2, 1) := by decide +kernel
theorem dX3_joined_166 : decode cX3_joined 166 = .ok (.ifCond .ne 7, 3) := by decide +kernel
theorem dX3_joined_169 : decode cX3_joined 169 = .ok (.iconst 0, 1) := by decide +kernel
theorem dX3_joined_170 : decode cX3_joined 170 = .ok (.goto 6, 3) := by decide +kernel
theorem dX3_joined_173 : decode cX3_joined 173 = .ok (.iload_n 1, 1) := by decide +kernel
theorem dX3_joined_174 : decode cX3_joined 174 = .ok (.iload_n 2, 1) := by decide +kernel
theorem dX3_joined_175 : decode cX3_joined 175 = .ok (.idiv, 1) := by decide +kernel
theorem dX3_joined_176 : decode cX3_joined 176 = .ok (.ireturn, 1) := by decide +kernel
theorem dX3_joined_177 : decode cX3_joined 177 = .ok (.iload_n 2, 1) := by decide +kernel
theorem dX3_joined_178 : decode cX3_joined 178 = .ok (.ifCond .ne 7, 3) := by decide +kernel
theorem dX3_joined_181 : decode cX3_joined 181 = .ok (.iconst 0, 1) := by decide +kernel
theorem dX3_joined_182 : decode cX3_joined 182 = .ok (.goto 6, 3) := by decide +kernel
theorem dX3_joined_185 : decode cX3_joined 185 = .ok (.iload_n 1, 1) := by decide +kernel
theorem dX3_joined_186 : decode cX3_joined 186 = .ok (.iload_n 2, 1) := by decide +kernel
theorem dX3_joined_187 : decode cX3_joined 187 = .ok (.irem, 1) := by decide +kernel
theorem dX3_joined_188 : decode cX3_joined 188 = .ok (.ireturn, 1) := by decide +kernel
theorem dX3_joined_189 : decode cX3_joined 189 = .ok (.iconst 0, 1) := by decide +kernel
theorem dX3_joined_190 : decode cX3_joined 190 = .ok (.ireturn, 1) := by decide +kernel
theorem dX4_init_0 : decode cX4_init 0 = .ok (.aload_n 0, 1) := by decide +kernel
theorem dX4_init_1 : decode cX4_init 1 = .ok (.invokespecial 3, 3) := by decide +kernel
theorem dX4_init_4 : decode cX4_init 4 = .ok (.aload_n 0, 1) := by decide +kernel
theorem dX4_init_5 : decode cX4_init 5 = .ok (.bipush 7, 2) := by decide +kernel
theorem dX4_init_7 : decode cX4_init 7 = .ok (.newarray .int, 2) := by decide +kernel
theorem dX4_init_9 : decode cX4_init 9 = .ok (.putfield 9, 3) := by decide +kernel
theorem dX4_init_12 : decode cX4_init 12 = .ok (.aload_n 0, 1) := by decide +kernel
theorem dX4_init_13 : decode cX4_init 13 = .ok (.iconst 4, 1) := by decide +kernel
theorem dX4_init_14 : decode cX4_init 14 = .ok (.newarray .int, 2) := by decide +kernel
theorem dX4_init_16 : decode cX4_init 16 = .ok (.putfield 15, 3) := by decide +kernel
theorem dX4_init_19 : decode cX4_init 19 = .ok (.aload_n 0, 1) := by decide +kernel
theorem dX4_init_20 : decode cX4_init 20 = .ok (.bipush 7, 2) := by decide +kernel
theorem dX4_init_22 : decode cX4_init 22 = .ok (.newarray .int, 2) := by decide +kernel
theorem dX4_init_24 : decode cX4_init 24 = .ok (.putfield 18, 3) := by decide +kernel
theorem dX4_init_27 : decode cX4_init 27 = .ok (.aload_n 0, 1) := by decide +kernel
theorem dX4_init_28 : decode cX4_init 28 = .ok (.bipush 7, 2) := by decide +kernel
theorem dX4_init_30 : decode cX4_init 30 = .ok (.newarray .int, 2) := by decide +kernel
theorem dX4_init_32 : decode cX4_init 32 = .ok (.putfield 21, 3) := by decide +kernel
theorem dX4_init_35 : decode cX4_init 35 = .ok (.aload_n 0, 1) := by decide +kernel
theorem dX4_init_36 : decode cX4_init 36 = .ok (.aload_n 1, 1) := by decide +kernel
theorem dX4_init_37 : decode cX4_init 37 = .ok (.putfield 24, 3) := by decide +kernel
theorem dX4_init_40 : decode cX4_init 40 = .ok (.return_, 1) := by decide +kernel
theorem dX4_dryThen_0 : decode cX4_dryThen 0 = .ok (.aload_n 0, 1) := by decide +kernel
theorem dX4_dryThen_1 : decode cX4_dryThen 1 = .ok (.invokevirtual 28, 3) := by decide +kernel
theorem dX4_dryThen_4 : decode cX4_dryThen 4 = .ok (.iconst 0, 1) := by decide +kernel
theorem dX4_dryThen_5 : decode cX4_dryThen 5 = .ok (.istore_n 3, 1) := by decide +kernel
theorem dX4_dryThen_6 : decode cX4_dryThen 6 = .ok (.iload_n 3, 1) := by decide +kernel
theorem dX4_dryThen_7 : decode cX4_dryThen 7 = .ok (.iload_n 2, 1) := by decide +kernel
theorem dX4_dryThen_8 : decode cX4_dryThen 8 = .ok (.if_icmp .ge 22, 3) := by decide +kernel
theorem dX4_dryThen_11 : decode cX4_dryThen 11 = .ok (.aload_n 0, 1) := by decide +kernel
theorem dX4_dryThen_12 : decode cX4_dryThen 12 = .ok (.aload_n 0, 1) := by decide +kernel
theorem dX4_dryThen_13 : decode cX4_dryThen 13 = .ok (.getfield 24, 3) := by decide +kernel
theorem dX4_dryThen_16 : decode cX4_dryThen 16 = .ok (.getfield 31, 3) := by decide +kernel
theorem dX4_dryThen_19 : decode cX4_dryThen 19 = .ok (.iload_n 3, 1) := by decide +kernel
theorem dX4_dryThen_20 : decode cX4_dryThen 20 = .ok (.iadd, 1) := by decide +kernel
theorem dX4_dryThen_21 : decode cX4_dryThen 21 = .ok (.invokevirtual 37, 3) := by decide +kernel
theorem dX4_dryThen_24 : decode cX4_dryThen 24 = .ok (.iinc 3 1, 3) := by decide +kernel
theorem dX4_dryThen_27 : decode cX4_dryThen 27 = .ok (.goto (-21), 3) := by decide +kernel
theorem dX4_dryThen_30 : decode cX4_dryThen 30 = .ok (.iload_n 1, 1) := by decide +kernel
theorem dX4_dryThen_31 : decode cX4_dryThen 31 = .ok (.iconst 0, 1) := by decide +kernel
theorem dX4_dryThen_32 : decode cX4_dryThen 32 = .ok (.bipush 6, 2) := by decide +kernel
theorem dX4_dryThen_34 : decode cX4_dryThen 34 = .ok (.invokestatic 41, 3) := by decide +kernel
theorem dX4_dryThen_37 : decode cX4_dryThen 37 = .ok (.ifCond .eq 12, 3) := by decide +kernel
theorem dX4_dryThen_40 : decode cX4_dryThen 40 = .ok (.aload_n 0, 1) := by decide +kernel
theorem dX4_dryThen_41 : decode cX4_dryThen 41 = .ok (.getfield 9, 3) := by decide +kernel
theorem dX4_dryThen_44 : decode cX4_dryThen 44 = .ok (.iload_n 1, 1) := by decide +kernel
theorem dX4_dryThen_45 : decode cX4_dryThen 45 = .ok (.iaload, 1) := by decide +kernel
theorem dX4_dryThen_46 : decode cX4_dryThen 46 = .ok (.goto 4, 3) := by decide +kernel
theorem dX4_dryThen_49 : decode cX4_dryThen 49 = .ok (.iconst 0, 1) := by decide +kernel
theorem dX4_dryThen_50 : decode cX4_dryThen 50 = .ok (.ireturn, 1) := by decide +kernel
theorem dX4_startAhead_0 : decode cX4_startAhead 0 = .ok (.iconst 0, 1) := by decide +kernel
theorem dX4_startAhead_1 : decode cX4_startAhead 1 = .ok (.istore_n 1, 1) := by decide +kernel
theorem dX4_startAhead_2 : decode cX4_startAhead 2 = .ok (.iload_n 1, 1) := by decide +kernel
theorem dX4_startAhead_3 : decode cX4_startAhead 3 = .ok (.aload_n 0, 1) := by decide +kernel
theorem dX4_startAhead_4 : decode cX4_startAhead 4 = .ok (.getfield 24, 3) := by decide +kernel
theorem dX4_startAhead_7 : decode cX4_startAhead 7 = .ok (.getfield 45, 3) := by decide +kernel
theorem dX4_startAhead_10 : decode cX4_startAhead 10 = .ok (.if_icmp .ge 27, 3) := by decide +kernel
theorem dX4_startAhead_13 : decode cX4_startAhead 13 = .ok (.aload_n 0, 1) := by decide +kernel
theorem dX4_startAhead_14 : decode cX4_startAhead 14 = .ok (.getfield 9, 3) := by decide +kernel
theorem dX4_startAhead_17 : decode cX4_startAhead 17 = .ok (.iload_n 1, 1) := by decide +kernel
theorem dX4_startAhead_18 : decode cX4_startAhead 18 = .ok (.aload_n 0, 1) := by decide +kernel
theorem dX4_startAhead_19 : decode cX4_startAhead 19 = .ok (.getfield 24, 3) := by decide +kernel
theorem dX4_startAhead_22 : decode cX4_startAhead 22 = .ok (.getfield 48, 3) := by decide +kernel
theorem dX4_startAhead_25 : decode cX4_startAhead 25 = .ok (.iload_n 1, 1) := by decide +kernel
theorem dX4_startAhead_26 : decode cX4_startAhead 26 = .ok (.aaload, 1) := by decide +kernel
theorem dX4_startAhead_27 : decode cX4_startAhead 27 = .ok (.getfield 52, 3) := by decide +kernel
theorem dX4_startAhead_30 : decode cX4_startAhead 30 = .ok (.iastore, 1) := by decide +kernel
theorem dX4_startAhead_31 : decode cX4_startAhead 31 = .ok (.iinc 1 1, 3) := by decide +kernel
theorem dX4_startAhead_34 : decode cX4_startAhead 34 = .ok (.goto (-32), 3) := by decide +kernel
theorem dX4_startAhead_37 : decode cX4_startAhead 37 = .ok (.return_, 1) := by decide +kernel
theorem dX4_goAhead_0 : decode cX4_goAhead 0 = .ok (.iconst 0, 1) := by decide +kernel
theorem dX4_goAhead_1 : decode cX4_goAhead 1 = .ok (.istore_n 2, 1) := by decide +kernel
theorem dX4_goAhead_2 : decode cX4_goAhead 2 = .ok (.iload_n 2, 1) := by decide +kernel
theorem dX4_goAhead_3 : decode cX4_goAhead 3 = .ok (.aload_n 0, 1) := by decide +kernel
theorem dX4_goAhead_4 : decode cX4_goAhead 4 = .ok (.getfield 24, 3) := by decide +kernel
theorem dX4_goAhead_7 : decode cX4_goAhead 7 = .ok (.getfield 45, 3) := by decide +kernel
theorem dX4_goAhead_10 : decode cX4_goAhead 10 = .ok (.if_icmp .ge 50, 3) := by decide +kernel
theorem dX4_goAhead_13 : decode cX4_goAhead 13 = .ok (.aload_n 0, 1) := by decide +kernel
theorem dX4_goAhead_14 : decode cX4_goAhead 14 = .ok (.getfield 9, 3) := by decide +kernel
theorem dX4_goAhead_17 : decode cX4_goAhead 17 = .ok (.iload_n 2, 1) := by decide +kernel
theorem dX4_goAhead_18 : decode cX4_goAhead 18 = .ok (.bipush 99, 2) := by decide +kernel
theorem dX4_goAhead_20 : decode cX4_goAhead 20 = .ok (.aload_n 0, 1) := by decide +kernel
theorem dX4_goAhead_21 : decode cX4_goAhead 21 = .ok (.getfield 9, 3) := by decide +kernel
theorem dX4_goAhead_24 : decode cX4_goAhead 24 = .ok (.iload_n 2, 1) := by decide +kernel
theorem dX4_goAhead_25 : decode cX4_goAhead 25 = .ok (.iaload, 1) := by decide +kernel
theorem dX4_goAhead_26 : decode cX4_goAhead 26 = .ok (.aload_n 0, 1) := by decide +kernel
theorem dX4_goAhead_27 : decode cX4_goAhead 27 = .ok (.getfield 24, 3) := by decide +kernel
theorem dX4_goAhead_30 : decode cX4_goAhead 30 = .ok (.aload_n 0, 1) := by decide +kernel
theorem dX4_goAhead_31 : decode cX4_goAhead 31 = .ok (.getfield 24, 3) := by decide +kernel
theorem dX4_goAhead_34 : decode cX4_goAhead 34 = .ok (.getfield 48, 3) := by decide +kernel
theorem dX4_goAhead_37 : decode cX4_goAhead 37 = .ok (.iload_n 2, 1) := by decide +kernel
theorem dX4_goAhead_38 : decode cX4_goAhead 38 = .ok (.aaload, 1) := by decide +kernel
theorem dX4_goAhead_39 : decode cX4_goAhead 39 = .ok (.aload_n 0, 1) := by decide +kernel
theorem dX4_goAhead_40 : decode cX4_goAhead 40 = .ok (.getfield 9, 3) := by decide +kernel
theorem dX4_goAhead_43 : decode cX4_goAhead 43 = .ok (.iload_n 2, 1) := by decide +kernel
theorem dX4_goAhead_44 : decode cX4_goAhead 44 = .ok (.iaload, 1) := by decide +kernel
theorem dX4_goAhead_45 : decode cX4_goAhead 45 = .ok (.iload_n 1, 1) := by decide +kernel
theorem dX4_goAhead_46 : decode cX4_goAhead 46 = .ok (.invokevirtual 56, 3) := by decide +kernel
theorem dX4_goAhead_49 : decode cX4_goAhead 49 = .ok (.iadd, 1) := by decide +kernel
theorem dX4_goAhead_50 : decode cX4_goAhead 50 = .ok (.invokestatic 60, 3) := by decide +kernel
theorem dX4_goAhead_53 : decode cX4_goAhead 53 = .ok (.iastore, 1) := by decide +kernel
theorem dX4_goAhead_54 : decode cX4_goAhead 54 = .ok (.iinc 2 1, 3) := by decide +kernel
theorem dX4_goAhead_57 : decode cX4_goAhead 57 = .ok (.goto (-55), 3) := by decide +kernel
theorem dX4_goAhead_60 : decode cX4_goAhead 60 = .ok (.return_, 1) := by decide +kernel
theorem dX4_hoursUntilAbove_0 : decode cX4_hoursUntilAbove 0 = .ok (.aload_n 0, 1) := by decide +kernel
theorem dX4_hoursUntilAbove_1 : decode cX4_hoursUntilAbove 1 = .ok (.invokevirtual 28, 3) := by decide +kernel
theorem dX4_hoursUntilAbove_4 : decode cX4_hoursUntilAbove 4 = .ok (.iconst 0, 1) := by decide +kernel
theorem dX4_hoursUntilAbove_5 : decode cX4_hoursUntilAbove 5 = .ok (.istore_n 2, 1) := by decide +kernel
theorem dX4_hoursUntilAbove_6 : decode cX4_hoursUntilAbove 6 = .ok (.iload_n 2, 1) := by decide +kernel
theorem dX4_hoursUntilAbove_7 : decode cX4_hoursUntilAbove 7 = .ok (.bipush 72, 2) := by decide +kernel
theorem dX4_hoursUntilAbove_9 : decode cX4_hoursUntilAbove 9 = .ok (.if_icmp .gt 32, 3) := by decide +kernel
theorem dX4_hoursUntilAbove_12 : decode cX4_hoursUntilAbove 12 = .ok (.aload_n 0, 1) := by decide +kernel
theorem dX4_hoursUntilAbove_13 : decode cX4_hoursUntilAbove 13 = .ok (.iload_n 1, 1) := by decide +kernel
theorem dX4_hoursUntilAbove_14 : decode cX4_hoursUntilAbove 14 = .ok (.invokevirtual 66, 3) := by decide +kernel
theorem dX4_hoursUntilAbove_17 : decode cX4_hoursUntilAbove 17 = .ok (.ifCond .lt 5, 3) := by decide +kernel
theorem dX4_hoursUntilAbove_20 : decode cX4_hoursUntilAbove 20 = .ok (.iload_n 2, 1) := by decide +kernel
theorem dX4_hoursUntilAbove_21 : decode cX4_hoursUntilAbove 21 = .ok (.ireturn, 1) := by decide +kernel
theorem dX4_hoursUntilAbove_22 : decode cX4_hoursUntilAbove 22 = .ok (.aload_n 0, 1) := by decide +kernel
theorem dX4_hoursUntilAbove_23 : decode cX4_hoursUntilAbove 23 = .ok (.aload_n 0, 1) := by decide +kernel
theorem dX4_hoursUntilAbove_24 : decode cX4_hoursUntilAbove 24 = .ok (.getfield 24, 3) := by decide +kernel
theorem dX4_hoursUntilAbove_27 : decode cX4_hoursUntilAbove 27 = .ok (.getfield 31, 3) := by decide +kernel
theorem dX4_hoursUntilAbove_30 : decode cX4_hoursUntilAbove 30 = .ok (.iload_n 2, 1) := by decide +kernel
theorem dX4_hoursUntilAbove_31 : decode cX4_hoursUntilAbove 31 = .ok (.iadd, 1) := by decide +kernel
theorem dX4_hoursUntilAbove_32 : decode cX4_hoursUntilAbove 32 = .ok (.invokevirtual 37, 3) := by decide +kernel
theorem dX4_hoursUntilAbove_35 : decode cX4_hoursUntilAbove 35 = .ok (.iinc 2 1, 3) := by decide +kernel
theorem dX4_hoursUntilAbove_38 : decode cX4_hoursUntilAbove 38 = .ok (.goto (-32), 3) := by decide +kernel
theorem dX4_hoursUntilAbove_41 : decode cX4_hoursUntilAbove 41 = .ok (.iconst (-1), 1) := by decide +kernel
theorem dX4_hoursUntilAbove_42 : decode cX4_hoursUntilAbove 42 = .ok (.ireturn, 1) := by decide +kernel
theorem dX4_firstAbove_0 : decode cX4_firstAbove 0 = .ok (.iconst 0, 1) := by decide +kernel
theorem dX4_firstAbove_1 : decode cX4_firstAbove 1 = .ok (.istore_n 2, 1) := by decide +kernel
theorem dX4_firstAbove_2 : decode cX4_firstAbove 2 = .ok (.iload_n 2, 1) := by decide +kernel
theorem dX4_firstAbove_3 : decode cX4_firstAbove 3 = .ok (.aload_n 0, 1) := by decide +kernel
theorem dX4_firstAbove_4 : decode cX4_firstAbove 4 = .ok (.getfield 24, 3) := by decide +kernel
theorem dX4_firstAbove_7 : decode cX4_firstAbove 7 = .ok (.getfield 45, 3) := by decide +kernel
theorem dX4_firstAbove_10 : decode cX4_firstAbove 10 = .ok (.if_icmp .ge 21, 3) := by decide +kernel
theorem dX4_firstAbove_13 : decode cX4_firstAbove 13 = .ok (.aload_n 0, 1) := by decide +kernel
theorem dX4_firstAbove_14 : decode cX4_firstAbove 14 = .ok (.getfield 9, 3) := by decide +kernel
theorem dX4_firstAbove_17 : decode cX4_firstAbove 17 = .ok (.iload_n 2, 1) := by decide +kernel
theorem dX4_firstAbove_18 : decode cX4_firstAbove 18 = .ok (.iaload, 1) := by decide +kernel
theorem dX4_firstAbove_19 : decode cX4_firstAbove 19 = .ok (.iload_n 1, 1) := by decide +kernel
theorem dX4_firstAbove_20 : decode cX4_firstAbove 20 = .ok (.if_icmp .le 5, 3) := by decide +kernel
theorem dX4_firstAbove_23 : decode cX4_firstAbove 23 = .ok (.iload_n 2, 1) := by decide +kernel
theorem dX4_firstAbove_24 : decode cX4_firstAbove 24 = .ok (.ireturn, 1) := by decide +kernel
theorem dX4_firstAbove_25 : decode cX4_firstAbove 25 = .ok (.iinc 2 1, 3) := by decide +kernel
theorem dX4_firstAbove_28 : decode cX4_firstAbove 28 = .ok (.goto (-26), 3) := by decide +kernel
theorem dX4_firstAbove_31 : decode cX4_firstAbove 31 = .ok (.iconst (-1), 1) := by decide +kernel
theorem dX4_firstAbove_32 : decode cX4_firstAbove 32 = .ok (.ireturn, 1) := by decide +kernel
theorem dX4_hoursUntilAsTold_0 : decode cX4_hoursUntilAsTold 0 = .ok (.aload_n 0, 1) := by decide +kernel
theorem dX4_hoursUntilAsTold_1 : decode cX4_hoursUntilAsTold 1 = .ok (.invokevirtual 28, 3) := by decide +kernel
theorem dX4_hoursUntilAsTold_4 : decode cX4_hoursUntilAsTold 4 = .ok (.iconst 0, 1) := by decide +kernel
theorem dX4_hoursUntilAsTold_5 : decode cX4_hoursUntilAsTold 5 = .ok (.istore_n 2, 1) := by decide +kernel
theorem dX4_hoursUntilAsTold_6 : decode cX4_hoursUntilAsTold 6 = .ok (.iload_n 2, 1) := by decide +kernel
theorem dX4_hoursUntilAsTold_7 : decode cX4_hoursUntilAsTold 7 = .ok (.bipush 72, 2) := by decide +kernel
theorem dX4_hoursUntilAsTold_9 : decode cX4_hoursUntilAsTold 9 = .ok (.if_icmp .gt 32, 3) := by decide +kernel
theorem dX4_hoursUntilAsTold_12 : decode cX4_hoursUntilAsTold 12 = .ok (.aload_n 0, 1) := by decide +kernel
theorem dX4_hoursUntilAsTold_13 : decode cX4_hoursUntilAsTold 13 = .ok (.aload_n 1, 1) := by decide +kernel
theorem dX4_hoursUntilAsTold_14 : decode cX4_hoursUntilAsTold 14 = .ok (.invokevirtual 70, 3) := by decide +kernel
theorem dX4_hoursUntilAsTold_17 : decode cX4_hoursUntilAsTold 17 = .ok (.ifCond .eq 5, 3) := by decide +kernel
theorem dX4_hoursUntilAsTold_20 : decode cX4_hoursUntilAsTold 20 = .ok (.iload_n 2, 1) := by decide +kernel
theorem dX4_hoursUntilAsTold_21 : decode cX4_hoursUntilAsTold 21 = .ok (.ireturn, 1) := by decide +kernel
theorem dX4_hoursUntilAsTold_22 : decode cX4_hoursUntilAsTold 22 = .ok (.aload_n 0, 1) := by decide +kernel
theorem dX4_hoursUntilAsTold_23 : decode cX4_hoursUntilAsTold 23 = .ok (.aload_n 0, 1) := by decide +kernel
theorem dX4_hoursUntilAsTold_24 : decode cX4_hoursUntilAsTold 24 = .ok (.getfield 24, 3) := by decide +kernel
theorem dX4_hoursUntilAsTold_27 : decode cX4_hoursUntilAsTold 27 = .ok (.getfield 31, 3) := by decide +kernel
theorem dX4_hoursUntilAsTold_30 : decode cX4_hoursUntilAsTold 30 = .ok (.iload_n 2, 1) := by decide +kernel
theorem dX4_hoursUntilAsTold_31 : decode cX4_hoursUntilAsTold 31 = .ok (.iadd, 1) := by decide +kernel
theorem dX4_hoursUntilAsTold_32 : decode cX4_hoursUntilAsTold 32 = .ok (.invokevirtual 37, 3) := by decide +kernel
theorem dX4_hoursUntilAsTold_35 : decode cX4_hoursUntilAsTold 35 = .ok (.iinc 2 1, 3) := by decide +kernel
theorem dX4_hoursUntilAsTold_38 : decode cX4_hoursUntilAsTold 38 = .ok (.goto (-32), 3) := by decide +kernel
theorem dX4_hoursUntilAsTold_41 : decode cX4_hoursUntilAsTold 41 = .ok (.iconst (-1), 1) := by decide +kernel
theorem dX4_hoursUntilAsTold_42 : decode cX4_hoursUntilAsTold 42 = .ok (.ireturn, 1) := by decide +kernel
theorem dX4_isAsTold_0 : decode cX4_isAsTold 0 = .ok (.aload_n 1, 1) := by decide +kernel
theorem dX4_isAsTold_1 : decode cX4_isAsTold 1 = .ok (.getfield 74, 3) := by decide +kernel
theorem dX4_isAsTold_4 : decode cX4_isAsTold 4 = .ok (.aload_n 0, 1) := by decide +kernel
theorem dX4_isAsTold_5 : decode cX4_isAsTold 5 = .ok (.getfield 24, 3) := by decide +kernel
theorem dX4_isAsTold_8 : decode cX4_isAsTold 8 = .ok (.getfield 45, 3) := by decide +kernel
theorem dX4_isAsTold_11 : decode cX4_isAsTold 11 = .ok (.if_icmp .le 5, 3) := by decide +kernel
theorem dX4_isAsTold_14 : decode cX4_isAsTold 14 = .ok (.iconst 0, 1) := by decide +kernel
theorem dX4_isAsTold_15 : decode cX4_isAsTold 15 = .ok (.ireturn, 1) := by decide +kernel
theorem dX4_isAsTold_16 : decode cX4_isAsTold 16 = .ok (.iconst 0, 1) := by decide +kernel
theorem dX4_isAsTold_17 : decode cX4_isAsTold 17 = .ok (.istore_n 2, 1) := by decide +kernel
theorem dX4_isAsTold_18 : decode cX4_isAsTold 18 = .ok (.iload_n 2, 1) := by decide +kernel
theorem dX4_isAsTold_19 : decode cX4_isAsTold 19 = .ok (.aload_n 1, 1) := by decide +kernel
theorem dX4_isAsTold_20 : decode cX4_isAsTold 20 = .ok (.getfield 74, 3) := by decide +kernel
theorem dX4_isAsTold_23 : decode cX4_isAsTold 23 = .ok (.if_icmp .ge 26, 3) := by decide +kernel
theorem dX4_isAsTold_26 : decode cX4_isAsTold 26 = .ok (.aload_n 1, 1) := by decide +kernel
theorem dX4_isAsTold_27 : decode cX4_isAsTold 27 = .ok (.getfield 79, 3) := by decide +kernel
theorem dX4_isAsTold_30 : decode cX4_isAsTold 30 = .ok (.iload_n 2, 1) := by decide +kernel
theorem dX4_isAsTold_31 : decode cX4_isAsTold 31 = .ok (.iaload, 1) := by decide +kernel
theorem dX4_isAsTold_32 : decode cX4_isAsTold 32 = .ok (.aload_n 0, 1) := by decide +kernel
theorem dX4_isAsTold_33 : decode cX4_isAsTold 33 = .ok (.getfield 9, 3) := by decide +kernel
theorem dX4_isAsTold_36 : decode cX4_isAsTold 36 = .ok (.iload_n 2, 1) := by decide +kernel
theorem dX4_isAsTold_37 : decode cX4_isAsTold 37 = .ok (.iaload, 1) := by decide +kernel
theorem dX4_isAsTold_38 : decode cX4_isAsTold 38 = .ok (.if_icmp .eq 5, 3) := by decide +kernel
theorem dX4_isAsTold_41 : decode cX4_isAsTold 41 = .ok (.iconst 0, 1) := by decide +kernel
theorem dX4_isAsTold_42 : decode cX4_isAsTold 42 = .ok (.ireturn, 1) := by decide +kernel
theorem dX4_isAsTold_43 : decode cX4_isAsTold 43 = .ok (.iinc 2 1, 3) := by decide +kernel
theorem dX4_isAsTold_46 : decode cX4_isAsTold 46 = .ok (.goto (-28), 3) := by decide +kernel
theorem dX4_isAsTold_49 : decode cX4_isAsTold 49 = .ok (.iconst 1, 1) := by decide +kernel
theorem dX4_isAsTold_50 : decode cX4_isAsTold 50 = .ok (.ireturn, 1) := by decide +kernel
theorem dX4_bestSet_0 : decode cX4_bestSet 0 = .ok (.iconst 0, 1) := by decide +kernel
theorem dX4_bestSet_1 : decode cX4_bestSet 1 = .ok (.istore_n 2, 1) := by decide +kernel
theorem dX4_bestSet_2 : decode cX4_bestSet 2 = .ok (.iconst 0, 1) := by decide +kernel
theorem dX4_bestSet_3 : decode cX4_bestSet 3 = .ok (.istore_n 3, 1) := by decide +kernel
theorem dX4_bestSet_4 : decode cX4_bestSet 4 = .ok (.iconst 1, 1) := by decide +kernel
theorem dX4_bestSet_5 : decode cX4_bestSet 5 = .ok (.istore 4, 2) := by decide +kernel
theorem dX4_bestSet_7 : decode cX4_bestSet 7 = .ok (.iload 4, 2) := by decide +kernel
theorem dX4_bestSet_9 : decode cX4_bestSet 9 = .ok (.aload_n 0, 1) := by decide +kernel
theorem dX4_bestSet_10 : decode cX4_bestSet 10 = .ok (.getfield 24, 3) := by decide +kernel
theorem dX4_bestSet_13 : decode cX4_bestSet 13 = .ok (.invokevirtual 82, 3) := by decide +kernel
theorem dX4_bestSet_16 : decode cX4_bestSet 16 = .ok (.if_icmp .gt 45, 3) := by decide +kernel
theorem dX4_bestSet_19 : decode cX4_bestSet 19 = .ok (.aload_n 0, 1) := by decide +kernel
theorem dX4_bestSet_20 : decode cX4_bestSet 20 = .ok (.getfield 24, 3) := by decide +kernel
theorem dX4_bestSet_23 : decode cX4_bestSet 23 = .ok (.iload 4, 2) := by decide +kernel
theorem dX4_bestSet_25 : decode cX4_bestSet 25 = .ok (.invokevirtual 86, 3) := by decide +kernel
theorem dX4_bestSet_28 : decode cX4_bestSet 28 = .ok (.iload_n 1, 1) := by decide +kernel
theorem dX4_bestSet_29 : decode cX4_bestSet 29 = .ok (.if_icmp .gt 26, 3) := by decide +kernel
theorem dX4_bestSet_32 : decode cX4_bestSet 32 = .ok (.aload_n 0, 1) := by decide +kernel
theorem dX4_bestSet_33 : decode cX4_bestSet 33 = .ok (.getfield 24, 3) := by decide +kernel
theorem dX4_bestSet_36 : decode cX4_bestSet 36 = .ok (.iload 4, 2) := by decide +kernel
theorem dX4_bestSet_38 : decode cX4_bestSet 38 = .ok (.invokevirtual 89, 3) := by decide +kernel
theorem dX4_bestSet_41 : decode cX4_bestSet 41 = .ok (.istore 5, 2) := by decide +kernel
theorem dX4_bestSet_43 : decode cX4_bestSet 43 = .ok (.iload 5, 2) := by decide +kernel
theorem dX4_bestSet_45 : decode cX4_bestSet 45 = .ok (.iload_n 3, 1) := by decide +kernel
theorem dX4_bestSet_46 : decode cX4_bestSet 46 = .ok (.if_icmp .le 9, 3) := by decide +kernel
theorem dX4_bestSet_49 : decode cX4_bestSet 49 = .ok (.iload 4, 2) := by decide +kernel
theorem dX4_bestSet_51 : decode cX4_bestSet 51 = .ok (.istore_n 2, 1) := by decide +kernel
theorem dX4_bestSet_52 : decode cX4_bestSet 52 = .ok (.iload 5, 2) := by decide +kernel
theorem dX4_bestSet_54 : decode cX4_bestSet 54 = .ok (.istore_n 3, 1) := by decide +kernel
theorem dX4_bestSet_55 : decode cX4_bestSet 55 = .ok (.iinc 4 1, 3) := by decide +kernel
theorem dX4_bestSet_58 : decode cX4_bestSet 58 = .ok (.goto (-51), 3) := by decide +kernel
theorem dX4_bestSet_61 : decode cX4_bestSet 61 = .ok (.iload_n 2, 1) := by decide +kernel
theorem dX4_bestSet_62 : decode cX4_bestSet 62 = .ok (.ireturn, 1) := by decide +kernel
theorem dX4_setsWithin_0 : decode cX4_setsWithin 0 = .ok (.iconst 0, 1) := by decide +kernel
theorem dX4_setsWithin_1 : decode cX4_setsWithin 1 = .ok (.istore_n 2, 1) := by decide +kernel
theorem dX4_setsWithin_2 : decode cX4_setsWithin 2 = .ok (.iconst 1, 1) := by decide +kernel
theorem dX4_setsWithin_3 : decode cX4_setsWithin 3 = .ok (.istore_n 3, 1) := by decide +kernel
theorem dX4_setsWithin_4 : decode cX4_setsWithin 4 = .ok (.iload_n 3, 1) := by decide +kernel
theorem dX4_setsWithin_5 : decode cX4_setsWithin 5 = .ok (.aload_n 0, 1) := by decide +kernel
theorem dX4_setsWithin_6 : decode cX4_setsWithin 6 = .ok (.getfield 24, 3) := by decide +kernel
theorem dX4_setsWithin_9 : decode cX4_setsWithin 9 = .ok (.invokevirtual 82, 3) := by decide +kernel
theorem dX4_setsWithin_12 : decode cX4_setsWithin 12 = .ok (.if_icmp .gt 24, 3) := by decide +kernel
theorem dX4_setsWithin_15 : decode cX4_setsWithin 15 = .ok (.aload_n 0, 1) := by decide +kernel
theorem dX4_setsWithin_16 : decode cX4_setsWithin 16 = .ok (.getfield 24, 3) := by decide +kernel
theorem dX4_setsWithin_19 : decode cX4_setsWithin 19 = .ok (.iload_n 3, 1) := by decide +kernel
theorem dX4_setsWithin_20 : decode cX4_setsWithin 20 = .ok (.invokevirtual 86, 3) := by decide +kernel
theorem dX4_setsWithin_23 : decode cX4_setsWithin 23 = .ok (.iload_n 1, 1) := by decide +kernel
theorem dX4_setsWithin_24 : decode cX4_setsWithin 24 = .ok (.if_icmp .gt 6, 3) := by decide +kernel
theorem dX4_setsWithin_27 : decode cX4_setsWithin 27 = .ok (.iinc 2 1, 3) := by decide +kernel
theorem dX4_setsWithin_30 : decode cX4_setsWithin 30 = .ok (.iinc 3 1, 3) := by decide +kernel
theorem dX4_setsWithin_33 : decode cX4_setsWithin 33 = .ok (.goto (-29), 3) := by decide +kernel
theorem dX4_setsWithin_36 : decode cX4_setsWithin 36 = .ok (.iload_n 2, 1) := by decide +kernel
theorem dX4_setsWithin_37 : decode cX4_setsWithin 37 = .ok (.ireturn, 1) := by decide +kernel
theorem dX4_setsOf_0 : decode cX4_setsOf 0 = .ok (.iconst 0, 1) := by decide +kernel
theorem dX4_setsOf_1 : decode cX4_setsOf 1 = .ok (.istore_n 2, 1) := by decide +kernel
theorem dX4_setsOf_2 : decode cX4_setsOf 2 = .ok (.iconst 1, 1) := by decide +kernel
theorem dX4_setsOf_3 : decode cX4_setsOf 3 = .ok (.istore_n 3, 1) := by decide +kernel
theorem dX4_setsOf_4 : decode cX4_setsOf 4 = .ok (.iload_n 3, 1) := by decide +kernel
theorem dX4_setsOf_5 : decode cX4_setsOf 5 = .ok (.aload_n 0, 1) := by decide +kernel
theorem dX4_setsOf_6 : decode cX4_setsOf 6 = .ok (.getfield 24, 3) := by decide +kernel
theorem dX4_setsOf_9 : decode cX4_setsOf 9 = .ok (.invokevirtual 82, 3) := by decide +kernel
theorem dX4_setsOf_12 : decode cX4_setsOf 12 = .ok (.if_icmp .gt 24, 3) := by decide +kernel
theorem dX4_setsOf_15 : decode cX4_setsOf 15 = .ok (.aload_n 0, 1) := by decide +kernel
theorem dX4_setsOf_16 : decode cX4_setsOf 16 = .ok (.getfield 24, 3) := by decide +kernel
theorem dX4_setsOf_19 : decode cX4_setsOf 19 = .ok (.iload_n 3, 1) := by decide +kernel
theorem dX4_setsOf_20 : decode cX4_setsOf 20 = .ok (.invokevirtual 86, 3) := by decide +kernel
theorem dX4_setsOf_23 : decode cX4_setsOf 23 = .ok (.iload_n 1, 1) := by decide +kernel
theorem dX4_setsOf_24 : decode cX4_setsOf 24 = .ok (.if_icmp .ne 6, 3) := by decide +kernel
theorem dX4_setsOf_27 : decode cX4_setsOf 27 = .ok (.iinc 2 1, 3) := by decide +kernel
theorem dX4_setsOf_30 : decode cX4_setsOf 30 = .ok (.iinc 3 1, 3) := by decide +kernel
theorem dX4_setsOf_33 : decode cX4_setsOf 33 = .ok (.goto (-29), 3) := by decide +kernel
theorem dX4_setsOf_36 : decode cX4_setsOf 36 = .ok (.iload_n 2, 1) := by decide +kernel
theorem dX4_setsOf_37 : decode cX4_setsOf 37 = .ok (.ireturn, 1) := by decide +kernel
theorem dX4_leastSetOf_0 : decode cX4_leastSetOf 0 = .ok (.iconst 1, 1) := by decide +kernel
theorem dX4_leastSetOf_1 : decode cX4_leastSetOf 1 = .ok (.istore_n 2, 1) := by decide +kernel
theorem dX4_leastSetOf_2 : decode cX4_leastSetOf 2 = .ok (.iload_n 2, 1) := by decide +kernel
theorem dX4_leastSetOf_3 : decode cX4_leastSetOf 3 = .ok (.aload_n 0, 1) := by decide +kernel
theorem dX4_leastSetOf_4 : decode cX4_leastSetOf 4 = .ok (.getfield 24, 3) := by decide +kernel
theorem dX4_leastSetOf_7 : decode cX4_leastSetOf 7 = .ok (.invokevirtual 82, 3) := by decide +kernel
theorem dX4_leastSetOf_10 : decode cX4_leastSetOf 10 = .ok (.if_icmp .gt 23, 3) := by decide +kernel
theorem dX4_leastSetOf_13 : decode cX4_leastSetOf 13 = .ok (.aload_n 0, 1) := by decide +kernel
theorem dX4_leastSetOf_14 : decode cX4_leastSetOf 14 = .ok (.getfield 24, 3) := by decide +kernel
theorem dX4_leastSetOf_17 : decode cX4_leastSetOf 17 = .ok (.iload_n 2, 1) := by decide +kernel
theorem dX4_leastSetOf_18 : decode cX4_leastSetOf 18 = .ok (.invokevirtual 86, 3) := by decide +kernel
theorem dX4_leastSetOf_21 : decode cX4_leastSetOf 21 = .ok (.iload_n 1, 1) := by decide +kernel
theorem dX4_leastSetOf_22 : decode cX4_leastSetOf 22 = .ok (.if_icmp .ne 5, 3) := by decide +kernel
theorem dX4_leastSetOf_25 : decode cX4_leastSetOf 25 = .ok (.iload_n 2, 1) := by decide +kernel
theorem dX4_leastSetOf_26 : decode cX4_leastSetOf 26 = .ok (.ireturn, 1) := by decide +kernel
theorem dX4_leastSetOf_27 : decode cX4_leastSetOf 27 = .ok (.iinc 2 1, 3) := by decide +kernel
theorem dX4_leastSetOf_30 : decode cX4_leastSetOf 30 = .ok (.goto (-28), 3) := by decide +kernel
theorem dX4_leastSetOf_33 : decode cX4_leastSetOf 33 = .ok (.iconst 0, 1) := by decide +kernel
theorem dX4_leastSetOf_34 : decode cX4_leastSetOf 34 = .ok (.ireturn, 1) := by decide +kernel
theorem dX4_fewestCarriers_0 : decode cX4_fewestCarriers 0 = .ok (.aload_n 0, 1) := by decide +kernel
theorem dX4_fewestCarriers_1 : decode cX4_fewestCarriers 1 = .ok (.getfield 24, 3) := by decide +kernel
theorem dX4_fewestCarriers_4 : decode cX4_fewestCarriers 4 = .ok (.getfield 92, 3) := by decide +kernel
theorem dX4_fewestCarriers_7 : decode cX4_fewestCarriers 7 = .ok (.iconst 0, 1) := by decide +kernel
theorem dX4_fewestCarriers_8 : decode cX4_fewestCarriers 8 = .ok (.aload_n 0, 1) := by decide +kernel
theorem dX4_fewestCarriers_9 : decode cX4_fewestCarriers 9 = .ok (.getfield 15, 3) := by decide +kernel
theorem dX4_fewestCarriers_12 : decode cX4_fewestCarriers 12 = .ok (.iconst 0, 1) := by decide +kernel
theorem dX4_fewestCarriers_13 : decode cX4_fewestCarriers 13 = .ok (.aload_n 0, 1) := by decide +kernel
theorem dX4_fewestCarriers_14 : decode cX4_fewestCarriers 14 = .ok (.getfield 15, 3) := by decide +kernel
theorem dX4_fewestCarriers_17 : decode cX4_fewestCarriers 17 = .ok (.arraylength, 1) := by decide +kernel
theorem dX4_fewestCarriers_18 : decode cX4_fewestCarriers 18 = .ok (.invokestatic 95, 3) := by decide +kernel
theorem dX4_fewestCarriers_21 : decode cX4_fewestCarriers 21 = .ok (.iconst 0, 1) := by decide +kernel
theorem dX4_fewestCarriers_22 : decode cX4_fewestCarriers 22 = .ok (.istore_n 2, 1) := by decide +kernel
theorem dX4_fewestCarriers_23 : decode cX4_fewestCarriers 23 = .ok (.iload_n 2, 1) := by decide +kernel
theorem dX4_fewestCarriers_24 : decode cX4_fewestCarriers 24 = .ok (.bipush 7, 2) := by decide +kernel
theorem dX4_fewestCarriers_26 : decode cX4_fewestCarriers 26 = .ok (.if_icmp .ge 16, 3) := by decide +kernel
theorem dX4_fewestCarriers_29 : decode cX4_fewestCarriers 29 = .ok (.aload_n 0, 1) := by decide +kernel
theorem dX4_fewestCarriers_30 : decode cX4_fewestCarriers 30 = .ok (.getfield 21, 3) := by decide +kernel
theorem dX4_fewestCarriers_33 : decode cX4_fewestCarriers 33 = .ok (.iload_n 2, 1) := by decide +kernel
theorem dX4_fewestCarriers_34 : decode cX4_fewestCarriers 34 = .ok (.iconst (-1), 1) := by decide +kernel
theorem dX4_fewestCarriers_35 : decode cX4_fewestCarriers 35 = .ok (.iastore, 1) := by decide +kernel
theorem dX4_fewestCarriers_36 : decode cX4_fewestCarriers 36 = .ok (.iinc 2 1, 3) := by decide +kernel
theorem dX4_fewestCarriers_39 : decode cX4_fewestCarriers 39 = .ok (.goto (-16), 3) := by decide +kernel
theorem dX4_fewestCarriers_42 : decode cX4_fewestCarriers 42 = .ok (.aload_n 0, 1) := by decide +kernel
theorem dX4_fewestCarriers_43 : decode cX4_fewestCarriers 43 = .ok (.iconst 5, 1) := by decide +kernel
theorem dX4_fewestCarriers_44 : decode cX4_fewestCarriers 44 = .ok (.putfield 101, 3) := by decide +kernel
theorem dX4_fewestCarriers_47 : decode cX4_fewestCarriers 47 = .ok (.aload_n 0, 1) := by decide +kernel
theorem dX4_fewestCarriers_48 : decode cX4_fewestCarriers 48 = .ok (.iconst 0, 1) := by decide +kernel
theorem dX4_fewestCarriers_49 : decode cX4_fewestCarriers 49 = .ok (.iconst 0, 1) := by decide +kernel
theorem dX4_fewestCarriers_50 : decode cX4_fewestCarriers 50 = .ok (.iload_n 1, 1) := by decide +kernel
theorem dX4_fewestCarriers_51 : decode cX4_fewestCarriers 51 = .ok (.invokevirtual 104, 3) := by decide +kernel
theorem dX4_fewestCarriers_54 : decode cX4_fewestCarriers 54 = .ok (.aload_n 0, 1) := by decide +kernel
theorem dX4_fewestCarriers_55 : decode cX4_fewestCarriers 55 = .ok (.getfield 101, 3) := by decide +kernel
theorem dX4_fewestCarriers_58 : decode cX4_fewestCarriers 58 = .ok (.iconst 4, 1) := by decide +kernel
theorem dX4_fewestCarriers_59 : decode cX4_fewestCarriers 59 = .ok (.if_icmp .le 7, 3) := by decide +kernel
theorem dX4_fewestCarriers_62 : decode cX4_fewestCarriers 62 = .ok (.iconst (-1), 1) := by decide +kernel
theorem dX4_fewestCarriers_63 : decode cX4_fewestCarriers 63 = .ok (.goto 7, 3) := by decide +kernel
theorem dX4_fewestCarriers_66 : decode cX4_fewestCarriers 66 = .ok (.aload_n 0, 1) := by decide +kernel
theorem dX4_fewestCarriers_67 : decode cX4_fewestCarriers 67 = .ok (.getfield 101, 3) := by decide +kernel
theorem dX4_fewestCarriers_70 : decode cX4_fewestCarriers 70 = .ok (.ireturn, 1) := by decide +kernel
theorem dX4_carrierOf_0 : decode cX4_carrierOf 0 = .ok (.iload_n 1, 1) := by decide +kernel
theorem dX4_carrierOf_1 : decode cX4_carrierOf 1 = .ok (.iconst 0, 1) := by decide +kernel
theorem dX4_carrierOf_2 : decode cX4_carrierOf 2 = .ok (.bipush 6, 2) := by decide +kernel
theorem dX4_carrierOf_4 : decode cX4_carrierOf 4 = .ok (.invokestatic 41, 3) := by decide +kernel
theorem dX4_carrierOf_7 : decode cX4_carrierOf 7 = .ok (.ifCond .eq 12, 3) := by decide +kernel
theorem dX4_carrierOf_10 : decode cX4_carrierOf 10 = .ok (.aload_n 0, 1) := by decide +kernel
theorem dX4_carrierOf_11 : decode cX4_carrierOf 11 = .ok (.getfield 21, 3) := by decide +kernel
theorem dX4_carrierOf_14 : decode cX4_carrierOf 14 = .ok (.iload_n 1, 1) := by decide +kernel
theorem dX4_carrierOf_15 : decode cX4_carrierOf 15 = .ok (.iaload, 1) := by decide +kernel
theorem dX4_carrierOf_16 : decode cX4_carrierOf 16 = .ok (.goto 4, 3) := by decide +kernel
theorem dX4_carrierOf_19 : decode cX4_carrierOf 19 = .ok (.iconst (-1), 1) := by decide +kernel
theorem dX4_carrierOf_20 : decode cX4_carrierOf 20 = .ok (.ireturn, 1) := by decide +kernel
theorem dX4_placeFrom_0 : decode cX4_placeFrom 0 = .ok (.iload_n 2, 1) := by decide +kernel
theorem dX4_placeFrom_1 : decode cX4_placeFrom 1 = .ok (.invokestatic 108, 3) := by decide +kernel
theorem dX4_placeFrom_4 : decode cX4_placeFrom 4 = .ok (.istore 4, 2) := by decide +kernel
theorem dX4_placeFrom_6 : decode cX4_placeFrom 6 = .ok (.iload 4, 2) := by decide +kernel
theorem dX4_placeFrom_8 : decode cX4_placeFrom 8 = .ok (.aload_n 0, 1) := by decide +kernel
theorem dX4_placeFrom_9 : decode cX4_placeFrom 9 = .ok (.getfield 101, 3) := by decide +kernel
theorem dX4_placeFrom_12 : decode cX4_placeFrom 12 = .ok (.if_icmp .lt 4, 3) := by decide +kernel
theorem dX4_placeFrom_15 : decode cX4_placeFrom 15 = .ok (.return_, 1) := by decide +kernel
theorem dX4_placeFrom_16 : decode cX4_placeFrom 16 = .ok (.iload_n 1, 1) := by decide +kernel
theorem dX4_placeFrom_17 : decode cX4_placeFrom 17 = .ok (.aload_n 0, 1) := by decide +kernel
theorem dX4_placeFrom_18 : decode cX4_placeFrom 18 = .ok (.getfield 24, 3) := by decide +kernel
theorem dX4_placeFrom_21 : decode cX4_placeFrom 21 = .ok (.getfield 45, 3) := by decide +kernel
theorem dX4_placeFrom_24 : decode cX4_placeFrom 24 = .ok (.if_icmp .ge 9, 3) := by decide +kernel
theorem dX4_placeFrom_27 : decode cX4_placeFrom 27 = .ok (.iload_n 1, 1) := by decide +kernel
theorem dX4_placeFrom_28 : decode cX4_placeFrom 28 = .ok (.bipush 7, 2) := by decide +kernel
theorem dX4_placeFrom_30 : decode cX4_placeFrom 30 = .ok (.if_icmp .lt 30, 3) := by decide +kernel
theorem dX4_placeFrom_33 : decode cX4_placeFrom 33 = .ok (.aload_n 0, 1) := by decide +kernel
theorem dX4_placeFrom_34 : decode cX4_placeFrom 34 = .ok (.iload 4, 2) := by decide +kernel
theorem dX4_placeFrom_36 : decode cX4_placeFrom 36 = .ok (.putfield 101, 3) := by decide +kernel
theorem dX4_placeFrom_39 : decode cX4_placeFrom 39 = .ok (.aload_n 0, 1) := by decide +kernel
theorem dX4_placeFrom_40 : decode cX4_placeFrom 40 = .ok (.getfield 18, 3) := by decide +kernel
theorem dX4_placeFrom_43 : decode cX4_placeFrom 43 = .ok (.iconst 0, 1) := by decide +kernel
theorem dX4_placeFrom_44 : decode cX4_placeFrom 44 = .ok (.aload_n 0, 1) := by decide +kernel
theorem dX4_placeFrom_45 : decode cX4_placeFrom 45 = .ok (.getfield 21, 3) := by decide +kernel
theorem dX4_placeFrom_48 : decode cX4_placeFrom 48 = .ok (.iconst 0, 1) := by decide +kernel
theorem dX4_placeFrom_49 : decode cX4_placeFrom 49 = .ok (.aload_n 0, 1) := by decide +kernel
theorem dX4_placeFrom_50 : decode cX4_placeFrom 50 = .ok (.getfield 24, 3) := by decide +kernel
theorem dX4_placeFrom_53 : decode cX4_placeFrom 53 = .ok (.getfield 45, 3) := by decide +kernel
theorem dX4_placeFrom_56 : decode cX4_placeFrom 56 = .ok (.invokestatic 95, 3) := by decide +kernel
theorem dX4_placeFrom_59 : decode cX4_placeFrom 59 = .ok (.return_, 1) := by decide +kernel
theorem dX4_placeFrom_60 : decode cX4_placeFrom 60 = .ok (.aload_n 0, 1) := by decide +kernel
theorem dX4_placeFrom_61 : decode cX4_placeFrom 61 = .ok (.getfield 24, 3) := by decide +kernel
theorem dX4_placeFrom_64 : decode cX4_placeFrom 64 = .ok (.getfield 48, 3) := by decide +kernel
theorem dX4_placeFrom_67 : decode cX4_placeFrom 67 = .ok (.iload_n 1, 1) := by decide +kernel
theorem dX4_placeFrom_68 : decode cX4_placeFrom 68 = .ok (.aaload, 1) := by decide +kernel
theorem dX4_placeFrom_69 : decode cX4_placeFrom 69 = .ok (.getfield 52, 3) := by decide +kernel
theorem dX4_placeFrom_72 : decode cX4_placeFrom 72 = .ok (.istore 5, 2) := by decide +kernel
theorem dX4_placeFrom_74 : decode cX4_placeFrom 74 = .ok (.iload 5, 2) := by decide +kernel
theorem dX4_placeFrom_76 : decode cX4_placeFrom 76 = .ok (.iload_n 3, 1) := by decide +kernel
theorem dX4_placeFrom_77 : decode cX4_placeFrom 77 = .ok (.if_icmp .gt 20, 3) := by decide +kernel
theorem dX4_placeFrom_80 : decode cX4_placeFrom 80 = .ok (.aload_n 0, 1) := by decide +kernel
theorem dX4_placeFrom_81 : decode cX4_placeFrom 81 = .ok (.getfield 18, 3) := by decide +kernel
theorem dX4_placeFrom_84 : decode cX4_placeFrom 84 = .ok (.iload_n 1, 1) := by decide +kernel
theorem dX4_placeFrom_85 : decode cX4_placeFrom 85 = .ok (.iconst (-1), 1) := by decide +kernel
theorem dX4_placeFrom_86 : decode cX4_placeFrom 86 = .ok (.iastore, 1) := by decide +kernel
theorem dX4_placeFrom_87 : decode cX4_placeFrom 87 = .ok (.aload_n 0, 1) := by decide +kernel
theorem dX4_placeFrom_88 : decode cX4_placeFrom 88 = .ok (.iload_n 1, 1) := by decide +kernel
theorem dX4_placeFrom_89 : decode cX4_placeFrom 89 = .ok (.iconst 1, 1) := by decide +kernel
theorem dX4_placeFrom_90 : decode cX4_placeFrom 90 = .ok (.iadd, 1) := by decide +kernel
theorem dX4_placeFrom_91 : decode cX4_placeFrom 91 = .ok (.iload_n 2, 1) := by decide +kernel
theorem dX4_placeFrom_92 : decode cX4_placeFrom 92 = .ok (.iload_n 3, 1) := by decide +kernel
theorem dX4_placeFrom_93 : decode cX4_placeFrom 93 = .ok (.invokevirtual 104, 3) := by decide +kernel
theorem dX4_placeFrom_96 : decode cX4_placeFrom 96 = .ok (.return_, 1) := by decide +kernel
theorem dX4_placeFrom_97 : decode cX4_placeFrom 97 = .ok (.iconst 0, 1) := by decide +kernel
theorem dX4_placeFrom_98 : decode cX4_placeFrom 98 = .ok (.istore 6, 2) := by decide +kernel
theorem dX4_placeFrom_100 : decode cX4_placeFrom 100 = .ok (.iload 6, 2) := by decide +kernel
theorem dX4_placeFrom_102 : decode cX4_placeFrom 102 = .ok (.aload_n 0, 1) := by decide +kernel
theorem dX4_placeFrom_103 : decode cX4_placeFrom 103 = .ok (.getfield 24, 3) := by decide +kernel
theorem dX4_placeFrom_106 : decode cX4_placeFrom 106 = .ok (.getfield 113, 3) := by decide +kernel
theorem dX4_placeFrom_109 : decode cX4_placeFrom 109 = .ok (.if_icmp .ge 67, 3) := by decide +kernel
theorem dX4_placeFrom_112 : decode cX4_placeFrom 112 = .ok (.iload 5, 2) := by decide +kernel
theorem dX4_placeFrom_114 : decode cX4_placeFrom 114 = .ok (.aload_n 0, 1) := by decide +kernel
theorem dX4_placeFrom_115 : decode cX4_placeFrom 115 = .ok (.getfield 15, 3) := by decide +kernel
theorem dX4_placeFrom_118 : decode cX4_placeFrom 118 = .ok (.iload 6, 2) := by decide +kernel
theorem dX4_placeFrom_120 : decode cX4_placeFrom 120 = .ok (.iaload, 1) := by decide +kernel
theorem dX4_placeFrom_121 : decode cX4_placeFrom 121 = .ok (.if_icmp .gt 49, 3) := by decide +kernel
theorem dX4_placeFrom_124 : decode cX4_placeFrom 124 = .ok (.aload_n 0, 1) := by decide +kernel
theorem dX4_placeFrom_125 : decode cX4_placeFrom 125 = .ok (.getfield 15, 3) := by decide +kernel
theorem dX4_placeFrom_128 : decode cX4_placeFrom 128 = .ok (.iload 6, 2) := by decide +kernel
theorem dX4_placeFrom_130 : decode cX4_placeFrom 130 = .ok (.dup2, 1) := by decide +kernel
theorem dX4_placeFrom_131 : decode cX4_placeFrom 131 = .ok (.iaload, 1) := by decide +kernel
theorem dX4_placeFrom_132 : decode cX4_placeFrom 132 = .ok (.iload 5, 2) := by decide +kernel
theorem dX4_placeFrom_134 : decode cX4_placeFrom 134 = .ok (.isub, 1) := by decide +kernel
theorem dX4_placeFrom_135 : decode cX4_placeFrom 135 = .ok (.iastore, 1) := by decide +kernel
theorem dX4_placeFrom_136 : decode cX4_placeFrom 136 = .ok (.aload_n 0, 1) := by decide +kernel
theorem dX4_placeFrom_137 : decode cX4_placeFrom 137 = .ok (.getfield 18, 3) := by decide +kernel
theorem dX4_placeFrom_140 : decode cX4_placeFrom 140 = .ok (.iload_n 1, 1) := by decide +kernel
theorem dX4_placeFrom_141 : decode cX4_placeFrom 141 = .ok (.iload 6, 2) := by decide +kernel
theorem dX4_placeFrom_143 : decode cX4_placeFrom 143 = .ok (.iastore, 1) := by decide +kernel
theorem dX4_placeFrom_144 : decode cX4_placeFrom 144 = .ok (.aload_n 0, 1) := by decide +kernel
theorem dX4_placeFrom_145 : decode cX4_placeFrom 145 = .ok (.iload_n 1, 1) := by decide +kernel
theorem dX4_placeFrom_146 : decode cX4_placeFrom 146 = .ok (.iconst 1, 1) := by decide +kernel
theorem dX4_placeFrom_147 : decode cX4_placeFrom 147 = .ok (.iadd, 1) := by decide +kernel
theorem dX4_placeFrom_148 : decode cX4_placeFrom 148 = .ok (.iload_n 2, 1) := by decide +kernel
theorem dX4_placeFrom_149 : decode cX4_placeFrom 149 = .ok (.iconst 1, 1) := by decide +kernel
theorem dX4_placeFrom_150 : decode cX4_placeFrom 150 = .ok (.iload 6, 2) := by decide +kernel
theorem dX4_placeFrom_152 : decode cX4_placeFrom 152 = .ok (.ishl, 1) := by decide +kernel
theorem dX4_placeFrom_153 : decode cX4_placeFrom 153 = .ok (.ior, 1) := by decide +kernel
theorem dX4_placeFrom_154 : decode cX4_placeFrom 154 = .ok (.iload_n 3, 1) := by decide +kernel
theorem dX4_placeFrom_155 : decode cX4_placeFrom 155 = .ok (.invokevirtual 104, 3) := by decide +kernel
theorem dX4_placeFrom_158 : decode cX4_placeFrom 158 = .ok (.aload_n 0, 1) := by decide +kernel
theorem dX4_placeFrom_159 : decode cX4_placeFrom 159 = .ok (.getfield 15, 3) := by decide +kernel
theorem dX4_placeFrom_162 : decode cX4_placeFrom 162 = .ok (.iload 6, 2) := by decide +kernel
theorem dX4_placeFrom_164 : decode cX4_placeFrom 164 = .ok (.dup2, 1) := by decide +kernel
theorem dX4_placeFrom_165 : decode cX4_placeFrom 165 = .ok (.iaload, 1) := by decide +kernel
theorem dX4_placeFrom_166 : decode cX4_placeFrom 166 = .ok (.iload 5, 2) := by decide +kernel
theorem dX4_placeFrom_168 : decode cX4_placeFrom 168 = .ok (.iadd, 1) := by decide +kernel
theorem dX4_placeFrom_169 : decode cX4_placeFrom 169 = .ok (.iastore, 1) := by decide +kernel
theorem dX4_placeFrom_170 : decode cX4_placeFrom 170 = .ok (.iinc 6 1, 3) := by decide +kernel
theorem dX4_placeFrom_173 : decode cX4_placeFrom 173 = .ok (.goto (-73), 3) := by decide +kernel
theorem dX4_placeFrom_176 : decode cX4_placeFrom 176 = .ok (.return_, 1) := by decide +kernel
theorem dX5_init_0 : decode cX5_init 0 = .ok (.aload_n 0, 1) := by decide +kernel
theorem dX5_init_1 : decode cX5_init 1 = .ok (.invokespecial 3, 3) := by decide +kernel
theorem dX5_init_4 : decode cX5_init 4 = .ok (.aload_n 0, 1) := by decide +kernel
theorem dX5_init_5 : decode cX5_init 5 = .ok (.bipush 30, 2) := by decide +kernel
theorem dX5_init_7 : decode cX5_init 7 = .ok (.newarray .int, 2) := by decide +kernel
theorem dX5_init_9 : decode cX5_init 9 = .ok (.putfield 11, 3) := by decide +kernel
theorem dX5_init_12 : decode cX5_init 12 = .ok (.return_, 1) := by decide +kernel
theorem dX5_answerOf_0 : decode cX5_answerOf 0 = .ok (.aload_n 0, 1) := by decide +kernel
theorem dX5_answerOf_1 : decode cX5_answerOf 1 = .ok (.iload_n 1, 1) := by decide +kernel
theorem dX5_answerOf_2 : decode cX5_answerOf 2 = .ok (.putfield 15, 3) := by decide +kernel
theorem dX5_answerOf_5 : decode cX5_answerOf 5 = .ok (.aload_n 0, 1) := by decide +kernel
theorem dX5_answerOf_6 : decode cX5_answerOf 6 = .ok (.aload_n 2, 1) := by decide +kernel
theorem dX5_answerOf_7 : decode cX5_answerOf 7 = .ok (.getfield 19, 3) := by decide +kernel
theorem dX5_answerOf_10 : decode cX5_answerOf 10 = .ok (.putfield 24, 3) := by decide +kernel
theorem dX5_answerOf_13 : decode cX5_answerOf 13 = .ok (.aload_n 0, 1) := by decide +kernel
theorem dX5_answerOf_14 : decode cX5_answerOf 14 = .ok (.aload_n 2, 1) := by decide +kernel
theorem dX5_answerOf_15 : decode cX5_answerOf 15 = .ok (.getfield 25, 3) := by decide +kernel
theorem dX5_answerOf_18 : decode cX5_answerOf 18 = .ok (.putfield 28, 3) := by decide +kernel
theorem dX5_answerOf_21 : decode cX5_answerOf 21 = .ok (.aload_n 0, 1) := by decide +kernel
theorem dX5_answerOf_22 : decode cX5_answerOf 22 = .ok (.iconst 0, 1) := by decide +kernel
theorem dX5_answerOf_23 : decode cX5_answerOf 23 = .ok (.putfield 29, 3) := by decide +kernel
theorem dX5_answerOf_26 : decode cX5_answerOf 26 = .ok (.aload_n 0, 1) := by decide +kernel
theorem dX5_answerOf_27 : decode cX5_answerOf 27 = .ok (.iconst 0, 1) := by decide +kernel
theorem dX5_answerOf_28 : decode cX5_answerOf 28 = .ok (.putfield 32, 3) := by decide +kernel
theorem dX5_answerOf_31 : decode cX5_answerOf 31 = .ok (.aload_n 0, 1) := by decide +kernel
theorem dX5_answerOf_32 : decode cX5_answerOf 32 = .ok (.aload_n 0, 1) := by decide +kernel
theorem dX5_answerOf_33 : decode cX5_answerOf 33 = .ok (.getfield 28, 3) := by decide +kernel
theorem dX5_answerOf_36 : decode cX5_answerOf 36 = .ok (.iload_n 3, 1) := by decide +kernel
theorem dX5_answerOf_37 : decode cX5_answerOf 37 = .ok (.iload 4, 2) := by decide +kernel
theorem dX5_answerOf_39 : decode cX5_answerOf 39 = .ok (.iconst 0, 1) := by decide +kernel
theorem dX5_answerOf_40 : decode cX5_answerOf 40 = .ok (.invokevirtual 36, 3) := by decide +kernel
theorem dX5_answerOf_43 : decode cX5_answerOf 43 = .ok (.ireturn, 1) := by decide +kernel
theorem dX5_spoken_0 : decode cX5_spoken 0 = .ok (.iload_n 1, 1) := by decide +kernel
theorem dX5_spoken_1 : decode cX5_spoken 1 = .ok (.iload_n 2, 1) := by decide +kernel
theorem dX5_spoken_2 : decode cX5_spoken 2 = .ok (.invokestatic 40, 3) := by decide +kernel
theorem dX5_spoken_5 : decode cX5_spoken 5 = .ok (.istore 5, 2) := by decide +kernel
theorem dX5_spoken_7 : decode cX5_spoken 7 = .ok (.iload 5, 2) := by decide +kernel
theorem dX5_spoken_9 : decode cX5_spoken 9 = .ok (.ifCond .lt 10, 3) := by decide +kernel
theorem dX5_spoken_12 : decode cX5_spoken 12 = .ok (.iload 4, 2) := by decide +kernel
theorem dX5_spoken_14 : decode cX5_spoken 14 = .ok (.bipush 20, 2) := by decide +kernel
theorem dX5_spoken_16 : decode cX5_spoken 16 = .ok (.if_icmp .le 5, 3) := by decide +kernel
theorem dX5_spoken_19 : decode cX5_spoken 19 = .ok (.iconst 0, 1) := by decide +kernel
theorem dX5_spoken_20 : decode cX5_spoken 20 = .ok (.ireturn, 1) := by decide +kernel
theorem dX5_spoken_21 : decode cX5_spoken 21 = .ok (.iload 5, 2) := by decide +kernel
theorem dX5_spoken_23 : decode cX5_spoken 23 = .ok (.iload_n 2, 1) := by decide +kernel
theorem dX5_spoken_24 : decode cX5_spoken 24 = .ok (.invokestatic 44, 3) := by decide +kernel
theorem dX5_spoken_27 : decode cX5_spoken 27 = .ok (.istore 6, 2) := by decide +kernel
theorem dX5_spoken_29 : decode cX5_spoken 29 = .ok (.aload_n 0, 1) := by decide +kernel
theorem dX5_spoken_30 : decode cX5_spoken 30 = .ok (.getfield 29, 3) := by decide +kernel
theorem dX5_spoken_33 : decode cX5_spoken 33 = .ok (.bipush 30, 2) := by decide +kernel
theorem dX5_spoken_35 : decode cX5_spoken 35 = .ok (.if_icmp .ge 24, 3) := by decide +kernel
theorem dX5_spoken_38 : decode cX5_spoken 38 = .ok (.aload_n 0, 1) := by decide +kernel
theorem dX5_spoken_39 : decode cX5_spoken 39 = .ok (.getfield 11, 3) := by decide +kernel
theorem dX5_spoken_42 : decode cX5_spoken 42 = .ok (.aload_n 0, 1) := by decide +kernel
theorem dX5_spoken_43 : decode cX5_spoken 43 = .ok (.getfield 29, 3) := by decide +kernel
theorem dX5_spoken_46 : decode cX5_spoken 46 = .ok (.iload 6, 2) := by decide +kernel
theorem dX5_spoken_48 : decode cX5_spoken 48 = .ok (.iastore, 1) := by decide +kernel
theorem dX5_spoken_49 : decode cX5_spoken 49 = .ok (.aload_n 0, 1) := by decide +kernel
theorem dX5_spoken_50 : decode cX5_spoken 50 = .ok (.dup, 1) := by decide +kernel
theorem dX5_spoken_51 : decode cX5_spoken 51 = .ok (.getfield 29, 3) := by decide +kernel
theorem dX5_spoken_54 : decode cX5_spoken 54 = .ok (.iconst 1, 1) := by decide +kernel
theorem dX5_spoken_55 : decode cX5_spoken 55 = .ok (.iadd, 1) := by decide +kernel
theorem dX5_spoken_56 : decode cX5_spoken 56 = .ok (.putfield 29, 3) := by decide +kernel
theorem dX5_spoken_59 : decode cX5_spoken 59 = .ok (.aload_n 0, 1) := by decide +kernel
theorem dX5_spoken_60 : decode cX5_spoken 60 = .ok (.iload 6, 2) := by decide +kernel
theorem dX5_spoken_62 : decode cX5_spoken 62 = .ok (.iload 5, 2) := by decide +kernel
theorem dX5_spoken_64 : decode cX5_spoken 64 = .ok (.invokestatic 47, 3) := by decide +kernel
theorem dX5_spoken_67 : decode cX5_spoken 67 = .ok (.iload_n 3, 1) := by decide +kernel
theorem dX5_spoken_68 : decode cX5_spoken 68 = .ok (.iload 4, 2) := by decide +kernel
theorem dX5_spoken_70 : decode cX5_spoken 70 = .ok (.iconst 1, 1) := by decide +kernel
theorem dX5_spoken_71 : decode cX5_spoken 71 = .ok (.iadd, 1) := by decide +kernel
theorem dX5_spoken_72 : decode cX5_spoken 72 = .ok (.invokevirtual 51, 3) := by decide +kernel
theorem dX5_spoken_75 : decode cX5_spoken 75 = .ok (.ireturn, 1) := by decide +kernel
theorem dX5_ownerOf_0 : decode cX5_ownerOf 0 = .ok (.iload_n 0, 1) := by decide +kernel
theorem dX5_ownerOf_1 : decode cX5_ownerOf 1 = .ok (.istore_n 2, 1) := by decide +kernel
theorem dX5_ownerOf_2 : decode cX5_ownerOf 2 = .ok (.iconst 0, 1) := by decide +kernel
theorem dX5_ownerOf_3 : decode cX5_ownerOf 3 = .ok (.istore_n 3, 1) := by decide +kernel
theorem dX5_ownerOf_4 : decode cX5_ownerOf 4 = .ok (.iload_n 3, 1) := by decide +kernel
theorem dX5_ownerOf_5 : decode cX5_ownerOf 5 = .ok (.bipush 7, 2) := by decide +kernel
theorem dX5_ownerOf_7 : decode cX5_ownerOf 7 = .ok (.if_icmp .ge 26, 3) := by decide +kernel
theorem dX5_ownerOf_10 : decode cX5_ownerOf 10 = .ok (.iload_n 2, 1) := by decide +kernel
theorem dX5_ownerOf_11 : decode cX5_ownerOf 11 = .ok (.ifCond .lt 22, 3) := by decide +kernel
theorem dX5_ownerOf_14 : decode cX5_ownerOf 14 = .ok (.iload_n 2, 1) := by decide +kernel
theorem dX5_ownerOf_15 : decode cX5_ownerOf 15 = .ok (.iload_n 1, 1) := by decide +kernel
theorem dX5_ownerOf_16 : decode cX5_ownerOf 16 = .ok (.invokestatic 44, 3) := by decide +kernel
theorem dX5_ownerOf_19 : decode cX5_ownerOf 19 = .ok (.ifCond .ne 14, 3) := by decide +kernel
theorem dX5_ownerOf_22 : decode cX5_ownerOf 22 = .ok (.iload_n 2, 1) := by decide +kernel
theorem dX5_ownerOf_23 : decode cX5_ownerOf 23 = .ok (.invokestatic 47, 3) := by decide +kernel
theorem dX5_ownerOf_26 : decode cX5_ownerOf 26 = .ok (.istore_n 2, 1) := by decide +kernel
theorem dX5_ownerOf_27 : decode cX5_ownerOf 27 = .ok (.iinc 3 1, 3) := by decide +kernel
theorem dX5_ownerOf_30 : decode cX5_ownerOf 30 = .ok (.goto (-26), 3) := by decide +kernel
theorem dX5_ownerOf_33 : decode cX5_ownerOf 33 = .ok (.iload_n 2, 1) := by decide +kernel
theorem dX5_ownerOf_34 : decode cX5_ownerOf 34 = .ok (.ireturn, 1) := by decide +kernel
theorem dX5_bodyOf_0 : decode cX5_bodyOf 0 = .ok (.iconst 4, 1) := by decide +kernel
theorem dX5_bodyOf_1 : decode cX5_bodyOf 1 = .ok (.iload_n 0, 1) := by decide +kernel
theorem dX5_bodyOf_2 : decode cX5_bodyOf 2 = .ok (.imul, 1) := by decide +kernel
theorem dX5_bodyOf_3 : decode cX5_bodyOf 3 = .ok (.iload_n 1, 1) := by decide +kernel
theorem dX5_bodyOf_4 : decode cX5_bodyOf 4 = .ok (.iadd, 1) := by decide +kernel
theorem dX5_bodyOf_5 : decode cX5_bodyOf 5 = .ok (.istore_n 2, 1) := by decide +kernel
theorem dX5_bodyOf_6 : decode cX5_bodyOf 6 = .ok (.iload_n 2, 1) := by decide +kernel
theorem dX5_bodyOf_7 : decode cX5_bodyOf 7 = .ok (.iconst 0, 1) := by decide +kernel
theorem dX5_bodyOf_8 : decode cX5_bodyOf 8 = .ok (.getstatic 54, 3) := by decide +kernel
theorem dX5_bodyOf_11 : decode cX5_bodyOf 11 = .ok (.arraylength, 1) := by decide +kernel
theorem dX5_bodyOf_12 : decode cX5_bodyOf 12 = .ok (.iconst 1, 1) := by decide +kernel
theorem dX5_bodyOf_13 : decode cX5_bodyOf 13 = .ok (.isub, 1) := by decide +kernel
theorem dX5_bodyOf_14 : decode cX5_bodyOf 14 = .ok (.invokestatic 57, 3) := by decide +kernel
theorem dX5_bodyOf_17 : decode cX5_bodyOf 17 = .ok (.ifCond .eq 11, 3) := by decide +kernel
theorem dX5_bodyOf_20 : decode cX5_bodyOf 20 = .ok (.getstatic 54, 3) := by decide +kernel
theorem dX5_bodyOf_23 : decode cX5_bodyOf 23 = .ok (.iload_n 2, 1) := by decide +kernel
theorem dX5_bodyOf_24 : decode cX5_bodyOf 24 = .ok (.iaload, 1) := by decide +kernel
theorem dX5_bodyOf_25 : decode cX5_bodyOf 25 = .ok (.goto 4, 3) := by decide +kernel
theorem dX5_bodyOf_28 : decode cX5_bodyOf 28 = .ok (.iconst 0, 1) := by decide +kernel
theorem dX5_bodyOf_29 : decode cX5_bodyOf 29 = .ok (.ireturn, 1) := by decide +kernel
theorem dX5_workedOut_0 : decode cX5_workedOut 0 = .ok (.iload_n 1, 1) := by decide +kernel
theorem dX5_workedOut_1 : decode cX5_workedOut 1 = .ok (.lookupswitch 263 #[(10, 115), (11, 122), (12, 137), (13, 155), (20, 161), (21, 173), (30, 182), (40, 194), (50, 206), (51, 218), (60, 233), (70, 245), (71, 248)], 115) := by decide +kernel
theorem dX5_workedOut_116 : decode cX5_workedOut 116 = .ok (.iload_n 3, 1) := by decide +kernel
theorem dX5_workedOut_117 : decode cX5_workedOut 117 = .ok (.aload_n 0, 1) := by decide +kernel
theorem dX5_workedOut_118 : decode cX5_workedOut 118 = .ok (.getfield 15, 3) := by decide +kernel
theorem dX5_workedOut_121 : decode cX5_workedOut 121 = .ok (.iadd, 1) := by decide +kernel
theorem dX5_workedOut_122 : decode cX5_workedOut 122 = .ok (.ireturn, 1) := by decide +kernel
theorem dX5_workedOut_123 : decode cX5_workedOut 123 = .ok (.aload_n 0, 1) := by decide +kernel
theorem dX5_workedOut_124 : decode cX5_workedOut 124 = .ok (.aload_n 0, 1) := by decide +kernel
theorem dX5_workedOut_125 : decode cX5_workedOut 125 = .ok (.getfield 28, 3) := by decide +kernel
theorem dX5_workedOut_128 : decode cX5_workedOut 128 = .ok (.iconst 0, 1) := by decide +kernel
theorem dX5_workedOut_129 : decode cX5_workedOut 129 = .ok (.iload_n 3, 1) := by decide +kernel
theorem dX5_workedOut_130 : decode cX5_workedOut 130 = .ok (.iload 4, 2) := by decide +kernel
theorem dX5_workedOut_132 : decode cX5_workedOut 132 = .ok (.invokevirtual 36, 3) := by decide +kernel
theorem dX5_workedOut_135 : decode cX5_workedOut 135 = .ok (.iconst 2, 1) := by decide +kernel
theorem dX5_workedOut_136 : decode cX5_workedOut 136 = .ok (.imul, 1) := by decide +kernel
theorem dX5_workedOut_137 : decode cX5_workedOut 137 = .ok (.ireturn, 1) := by decide +kernel
theorem dX5_workedOut_138 : decode cX5_workedOut 138 = .ok (.aload_n 0, 1) := by decide +kernel
theorem dX5_workedOut_139 : decode cX5_workedOut 139 = .ok (.aload_n 0, 1) := by decide +kernel
theorem dX5_workedOut_140 : decode cX5_workedOut 140 = .ok (.getfield 28, 3) := by decide +kernel
theorem dX5_workedOut_143 : decode cX5_workedOut 143 = .ok (.iconst 1, 1) := by decide +kernel
theorem dX5_workedOut_144 : decode cX5_workedOut 144 = .ok (.iload_n 3, 1) := by decide +kernel
theorem dX5_workedOut_145 : decode cX5_workedOut 145 = .ok (.iload 4, 2) := by decide +kernel
theorem dX5_workedOut_147 : decode cX5_workedOut 147 = .ok (.invokevirtual 36, 3) := by decide +kernel
theorem dX5_workedOut_150 : decode cX5_workedOut 150 = .ok (.aload_n 0, 1) := by decide +kernel
theorem dX5_workedOut_151 : decode cX5_workedOut 151 = .ok (.getfield 24, 3) := by decide +kernel
theorem dX5_workedOut_154 : decode cX5_workedOut 154 = .ok (.isub, 1) := by decide +kernel
theorem dX5_workedOut_155 : decode cX5_workedOut 155 = .ok (.ireturn, 1) := by decide +kernel
theorem dX5_workedOut_156 : decode cX5_workedOut 156 = .ok (.aload_n 0, 1) := by decide +kernel
theorem dX5_workedOut_157 : decode cX5_workedOut 157 = .ok (.iload_n 3, 1) := by decide +kernel
theorem dX5_workedOut_158 : decode cX5_workedOut 158 = .ok (.invokevirtual 61, 3) := by decide +kernel
theorem dX5_workedOut_161 : decode cX5_workedOut 161 = .ok (.ireturn, 1) := by decide +kernel
theorem dX5_workedOut_162 : decode cX5_workedOut 162 = .ok (.aload_n 0, 1) := by decide +kernel
theorem dX5_workedOut_163 : decode cX5_workedOut 163 = .ok (.iload_n 2, 1) := by decide +kernel
theorem dX5_workedOut_164 : decode cX5_workedOut 164 = .ok (.iconst 0, 1) := by decide +kernel
theorem dX5_workedOut_165 : decode cX5_workedOut 165 = .ok (.iload_n 3, 1) := by decide +kernel
theorem dX5_workedOut_166 : decode cX5_workedOut 166 = .ok (.iload 4, 2) := by decide +kernel
theorem dX5_workedOut_168 : decode cX5_workedOut 168 = .ok (.invokevirtual 36, 3) := by decide +kernel
theorem dX5_workedOut_171 : decode cX5_workedOut 171 = .ok (.iconst 4, 1) := by decide +kernel
theorem dX5_workedOut_172 : decode cX5_workedOut 172 = .ok (.isub, 1) := by decide +kernel
theorem dX5_workedOut_173 : decode cX5_workedOut 173 = .ok (.ireturn, 1) := by decide +kernel
theorem dX5_workedOut_174 : decode cX5_workedOut 174 = .ok (.aload_n 0, 1) := by decide +kernel
theorem dX5_workedOut_175 : decode cX5_workedOut 175 = .ok (.iload_n 2, 1) := by decide +kernel
theorem dX5_workedOut_176 : decode cX5_workedOut 176 = .ok (.iload_n 3, 1) := by decide +kernel
theorem dX5_workedOut_177 : decode cX5_workedOut 177 = .ok (.iload 4, 2) := by decide +kernel
theorem dX5_workedOut_179 : decode cX5_workedOut 179 = .ok (.invokevirtual 64, 3) := by decide +kernel
theorem dX5_workedOut_182 : decode cX5_workedOut 182 = .ok (.ireturn, 1) := by decide +kernel
theorem dX5_workedOut_183 : decode cX5_workedOut 183 = .ok (.iconst 0, 1) := by decide +kernel
theorem dX5_workedOut_184 : decode cX5_workedOut 184 = .ok (.aload_n 0, 1) := by decide +kernel
theorem dX5_workedOut_185 : decode cX5_workedOut 185 = .ok (.iload_n 2, 1) := by decide +kernel
theorem dX5_workedOut_186 : decode cX5_workedOut 186 = .ok (.iconst 1, 1) := by decide +kernel
theorem dX5_workedOut_187 : decode cX5_workedOut 187 = .ok (.iload_n 3, 1) := by decide +kernel
theorem dX5_workedOut_188 : decode cX5_workedOut 188 = .ok (.iload 4, 2) := by decide +kernel
theorem dX5_workedOut_190 : decode cX5_workedOut 190 = .ok (.invokevirtual 36, 3) := by decide +kernel
theorem dX5_workedOut_193 : decode cX5_workedOut 193 = .ok (.isub, 1) := by decide +kernel
theorem dX5_workedOut_194 : decode cX5_workedOut 194 = .ok (.ireturn, 1) := by decide +kernel
theorem dX5_workedOut_195 : decode cX5_workedOut 195 = .ok (.aload_n 0, 1) := by decide +kernel
theorem dX5_workedOut_196 : decode cX5_workedOut 196 = .ok (.iload_n 2, 1) := by decide +kernel
theorem dX5_workedOut_197 : decode cX5_workedOut 197 = .ok (.iconst 2, 1) := by decide +kernel
theorem dX5_workedOut_198 : decode cX5_workedOut 198 = .ok (.iload_n 3, 1) := by decide +kernel
theorem dX5_workedOut_199 : decode cX5_workedOut 199 = .ok (.iconst 2, 1) := by decide +kernel
theorem dX5_workedOut_200 : decode cX5_workedOut 200 = .ok (.idiv, 1) := by decide +kernel
theorem dX5_workedOut_201 : decode cX5_workedOut 201 = .ok (.iload 4, 2) := by decide +kernel
theorem dX5_workedOut_203 : decode cX5_workedOut 203 = .ok (.invokevirtual 36, 3) := by decide +kernel
theorem dX5_workedOut_206 : decode cX5_workedOut 206 = .ok (.ireturn, 1) := by decide +kernel
theorem dX5_workedOut_207 : decode cX5_workedOut 207 = .ok (.aload_n 0, 1) := by decide +kernel
theorem dX5_workedOut_208 : decode cX5_workedOut 208 = .ok (.iload_n 2, 1) := by decide +kernel
theorem dX5_workedOut_209 : decode cX5_workedOut 209 = .ok (.iconst 0, 1) := by decide +kernel
theorem dX5_workedOut_210 : decode cX5_workedOut 210 = .ok (.iload_n 3, 1) := by decide +kernel
theorem dX5_workedOut_211 : decode cX5_workedOut 211 = .ok (.iload 4, 2) := by decide +kernel
theorem dX5_workedOut_213 : decode cX5_workedOut 213 = .ok (.invokevirtual 36, 3) := by decide +kernel
theorem dX5_workedOut_216 : decode cX5_workedOut 216 = .ok (.iconst 3, 1) := by decide +kernel
theorem dX5_workedOut_217 : decode cX5_workedOut 217 = .ok (.imul, 1) := by decide +kernel
theorem dX5_workedOut_218 : decode cX5_workedOut 218 = .ok (.ireturn, 1) := by decide +kernel
theorem dX5_workedOut_219 : decode cX5_workedOut 219 = .ok (.aload_n 0, 1) := by decide +kernel
theorem dX5_workedOut_220 : decode cX5_workedOut 220 = .ok (.iload_n 2, 1) := by decide +kernel
theorem dX5_workedOut_221 : decode cX5_workedOut 221 = .ok (.iconst 2, 1) := by decide +kernel
theorem dX5_workedOut_222 : decode cX5_workedOut 222 = .ok (.iload_n 3, 1) := by decide +kernel
theorem dX5_workedOut_223 : decode cX5_workedOut 223 = .ok (.iload 4, 2) := by decide +kernel
theorem dX5_workedOut_225 : decode cX5_workedOut 225 = .ok (.invokevirtual 36, 3) := by decide +kernel
theorem dX5_workedOut_228 : decode cX5_workedOut 228 = .ok (.aload_n 0, 1) := by decide +kernel
theorem dX5_workedOut_229 : decode cX5_workedOut 229 = .ok (.getfield 15, 3) := by decide +kernel
theorem dX5_workedOut_232 : decode cX5_workedOut 232 = .ok (.ixor, 1) := by decide +kernel
theorem dX5_workedOut_233 : decode cX5_workedOut 233 = .ok (.ireturn, 1) := by decide +kernel
theorem dX5_workedOut_234 : decode cX5_workedOut 234 = .ok (.aload_n 0, 1) := by decide +kernel
theorem dX5_workedOut_235 : decode cX5_workedOut 235 = .ok (.iload_n 2, 1) := by decide +kernel
theorem dX5_workedOut_236 : decode cX5_workedOut 236 = .ok (.iconst 1, 1) := by decide +kernel
theorem dX5_workedOut_237 : decode cX5_workedOut 237 = .ok (.iload_n 3, 1) := by decide +kernel
theorem dX5_workedOut_238 : decode cX5_workedOut 238 = .ok (.iconst 1, 1) := by decide +kernel
theorem dX5_workedOut_239 : decode cX5_workedOut 239 = .ok (.iadd, 1) := by decide +kernel
theorem dX5_workedOut_240 : decode cX5_workedOut 240 = .ok (.iload 4, 2) := by decide +kernel
theorem dX5_workedOut_242 : decode cX5_workedOut 242 = .ok (.invokevirtual 36, 3) := by decide +kernel
theorem dX5_workedOut_245 : decode cX5_workedOut 245 = .ok (.ireturn, 1) := by decide +kernel
theorem dX5_workedOut_246 : decode cX5_workedOut 246 = .ok (.bipush 9, 2) := by decide +kernel
theorem dX5_workedOut_248 : decode cX5_workedOut 248 = .ok (.ireturn, 1) := by decide +kernel
theorem dX5_workedOut_249 : decode cX5_workedOut 249 = .ok (.aload_n 0, 1) := by decide +kernel
theorem dX5_workedOut_250 : decode cX5_workedOut 250 = .ok (.iload_n 2, 1) := by decide +kernel
theorem dX5_workedOut_251 : decode cX5_workedOut 251 = .ok (.iconst 1, 1) := by decide +kernel
theorem dX5_workedOut_252 : decode cX5_workedOut 252 = .ok (.iload_n 3, 1) := by decide +kernel
theorem dX5_workedOut_253 : decode cX5_workedOut 253 = .ok (.iload 4, 2) := by decide +kernel
theorem dX5_workedOut_255 : decode cX5_workedOut 255 = .ok (.invokevirtual 36, 3) := by decide +kernel
theorem dX5_workedOut_258 : decode cX5_workedOut 258 = .ok (.aload_n 0, 1) := by decide +kernel
theorem dX5_workedOut_259 : decode cX5_workedOut 259 = .ok (.getfield 24, 3) := by decide +kernel
theorem dX5_workedOut_262 : decode cX5_workedOut 262 = .ok (.iadd, 1) := by decide +kernel
theorem dX5_workedOut_263 : decode cX5_workedOut 263 = .ok (.ireturn, 1) := by decide +kernel
theorem dX5_workedOut_264 : decode cX5_workedOut 264 = .ok (.iconst 0, 1) := by decide +kernel
theorem dX5_workedOut_265 : decode cX5_workedOut 265 = .ok (.ireturn, 1) := by decide +kernel
theorem dX5_partOf_0 : decode cX5_partOf 0 = .ok (.aload_n 0, 1) := by decide +kernel
theorem dX5_partOf_1 : decode cX5_partOf 1 = .ok (.getfield 24, 3) := by decide +kernel
theorem dX5_partOf_4 : decode cX5_partOf 4 = .ok (.aload_n 0, 1) := by decide +kernel
theorem dX5_partOf_5 : decode cX5_partOf 5 = .ok (.getfield 15, 3) := by decide +kernel
theorem dX5_partOf_8 : decode cX5_partOf 8 = .ok (.isub, 1) := by decide +kernel
theorem dX5_partOf_9 : decode cX5_partOf 9 = .ok (.istore_n 2, 1) := by decide +kernel
theorem dX5_partOf_10 : decode cX5_partOf 10 = .ok (.iload_n 2, 1) := by decide +kernel
theorem dX5_partOf_11 : decode cX5_partOf 11 = .ok (.ifCond .ne 10, 3) := by decide +kernel
theorem dX5_partOf_14 : decode cX5_partOf 14 = .ok (.aload_n 0, 1) := by decide +kernel
theorem dX5_partOf_15 : decode cX5_partOf 15 = .ok (.iconst 1, 1) := by decide +kernel
theorem dX5_partOf_16 : decode cX5_partOf 16 = .ok (.putfield 32, 3) := by decide +kernel
theorem dX5_partOf_19 : decode cX5_partOf 19 = .ok (.iconst 0, 1) := by decide +kernel
theorem dX5_partOf_20 : decode cX5_partOf 20 = .ok (.ireturn, 1) := by decide +kernel
theorem dX5_partOf_21 : decode cX5_partOf 21 = .ok (.iload_n 1, 1) := by decide +kernel
theorem dX5_partOf_22 : decode cX5_partOf 22 = .ok (.iload_n 2, 1) := by decide +kernel
theorem dX5_partOf_23 : decode cX5_partOf 23 = .ok (.idiv, 1) := by decide +kernel
theorem dX5_partOf_24 : decode cX5_partOf 24 = .ok (.ireturn, 1) := by decide +kernel
theorem dX5_partAndSips_0 : decode cX5_partAndSips 0 = .ok (.aload_n 0, 1) := by decide +kernel
theorem dX5_partAndSips_1 : decode cX5_partAndSips 1 = .ok (.iload_n 1, 1) := by decide +kernel
theorem dX5_partAndSips_2 : decode cX5_partAndSips 2 = .ok (.iconst 3, 1) := by decide +kernel
theorem dX5_partAndSips_3 : decode cX5_partAndSips 3 = .ok (.iload_n 2, 1) := by decide +kernel
theorem dX5_partAndSips_4 : decode cX5_partAndSips 4 = .ok (.iload_n 3, 1) := by decide +kernel
theorem dX5_partAndSips_5 : decode cX5_partAndSips 5 = .ok (.invokevirtual 36, 3) := by decide +kernel
theorem dX5_partAndSips_8 : decode cX5_partAndSips 8 = .ok (.istore 4, 2) := by decide +kernel
theorem dX5_partAndSips_10 : decode cX5_partAndSips 10 = .ok (.aload_n 0, 1) := by decide +kernel
theorem dX5_partAndSips_11 : decode cX5_partAndSips 11 = .ok (.getfield 32, 3) := by decide +kernel
theorem dX5_partAndSips_14 : decode cX5_partAndSips 14 = .ok (.ifCond .eq 7, 3) := by decide +kernel
theorem dX5_partAndSips_17 : decode cX5_partAndSips 17 = .ok (.iconst 0, 1) := by decide +kernel
theorem dX5_partAndSips_18 : decode cX5_partAndSips 18 = .ok (.goto 17, 3) := by decide +kernel
theorem dX5_partAndSips_21 : decode cX5_partAndSips 21 = .ok (.iload 4, 2) := by decide +kernel
theorem dX5_partAndSips_23 : decode cX5_partAndSips 23 = .ok (.aload_n 0, 1) := by decide +kernel
theorem dX5_partAndSips_24 : decode cX5_partAndSips 24 = .ok (.aload_n 0, 1) := by decide +kernel
theorem dX5_partAndSips_25 : decode cX5_partAndSips 25 = .ok (.getfield 28, 3) := by decide +kernel
theorem dX5_partAndSips_28 : decode cX5_partAndSips 28 = .ok (.iconst 1, 1) := by decide +kernel
theorem dX5_partAndSips_29 : decode cX5_partAndSips 29 = .ok (.iconst 1, 1) := by decide +kernel
theorem dX5_partAndSips_30 : decode cX5_partAndSips 30 = .ok (.iload_n 3, 1) := by decide +kernel
theorem dX5_partAndSips_31 : decode cX5_partAndSips 31 = .ok (.invokevirtual 36, 3) := by decide +kernel
theorem dX5_partAndSips_34 : decode cX5_partAndSips 34 = .ok (.iadd, 1) := by decide +kernel
theorem dX5_partAndSips_35 : decode cX5_partAndSips 35 = .ok (.ireturn, 1) := by decide +kernel
theorem dX6_init_0 : decode cX6_init 0 = .ok (.aload_n 0, 1) := by decide +kernel
theorem dX6_init_1 : decode cX6_init 1 = .ok (.invokespecial 3, 3) := by decide +kernel
theorem dX6_init_4 : decode cX6_init 4 = .ok (.aload_n 0, 1) := by decide +kernel
theorem dX6_init_5 : decode cX6_init 5 = .ok (.bipush 7, 2) := by decide +kernel
theorem dX6_init_7 : decode cX6_init 7 = .ok (.anewarray 9, 3) := by decide +kernel
theorem dX6_init_10 : decode cX6_init 10 = .ok (.putfield 11, 3) := by decide +kernel
theorem dX6_init_13 : decode cX6_init 13 = .ok (.aload_n 0, 1) := by decide +kernel
theorem dX6_init_14 : decode cX6_init 14 = .ok (.iconst 4, 1) := by decide +kernel
theorem dX6_init_15 : decode cX6_init 15 = .ok (.newarray .int, 2) := by decide +kernel
theorem dX6_init_17 : decode cX6_init 17 = .ok (.putfield 17, 3) := by decide +kernel
theorem dX6_init_20 : decode cX6_init 20 = .ok (.aload_n 0, 1) := by decide +kernel
theorem dX6_init_21 : decode cX6_init 21 = .ok (.iconst 4, 1) := by decide +kernel
theorem dX6_init_22 : decode cX6_init 22 = .ok (.newarray .int, 2) := by decide +kernel
theorem dX6_init_24 : decode cX6_init 24 = .ok (.putfield 21, 3) := by decide +kernel
theorem dX6_init_27 : decode cX6_init 27 = .ok (.aload_n 0, 1) := by decide +kernel
theorem dX6_init_28 : decode cX6_init 28 = .ok (.iconst 3, 1) := by decide +kernel
theorem dX6_init_29 : decode cX6_init 29 = .ok (.newarray .int, 2) := by decide +kernel
theorem dX6_init_31 : decode cX6_init 31 = .ok (.putfield 24, 3) := by decide +kernel
theorem dX6_init_34 : decode cX6_init 34 = .ok (.aload_n 0, 1) := by decide +kernel
theorem dX6_init_35 : decode cX6_init 35 = .ok (.iconst 1, 1) := by decide +kernel
theorem dX6_init_36 : decode cX6_init 36 = .ok (.putfield 27, 3) := by decide +kernel
theorem dX6_init_39 : decode cX6_init 39 = .ok (.aload_n 0, 1) := by decide +kernel
theorem dX6_init_40 : decode cX6_init 40 = .ok (.bipush 60, 2) := by decide +kernel
theorem dX6_init_42 : decode cX6_init 42 = .ok (.newarray .byte, 2) := by decide +kernel
theorem dX6_init_44 : decode cX6_init 44 = .ok (.putfield 31, 3) := by decide +kernel
theorem dX6_init_47 : decode cX6_init 47 = .ok (.aload_n 0, 1) := by decide +kernel
theorem dX6_init_48 : decode cX6_init 48 = .ok (.iconst 2, 1) := by decide +kernel
theorem dX6_init_49 : decode cX6_init 49 = .ok (.anewarray 35, 3) := by decide +kernel
theorem dX6_init_52 : decode cX6_init 52 = .ok (.putfield 37, 3) := by decide +kernel
theorem dX6_init_55 : decode cX6_init 55 = .ok (.aload_n 0, 1) := by decide +kernel
theorem dX6_init_56 : decode cX6_init 56 = .ok (.bipush 24, 2) := by decide +kernel
theorem dX6_init_58 : decode cX6_init 58 = .ok (.newarray .int, 2) := by decide +kernel
theorem dX6_init_60 : decode cX6_init 60 = .ok (.putfield 41, 3) := by decide +kernel
theorem dX6_init_63 : decode cX6_init 63 = .ok (.iconst 0, 1) := by decide +kernel
theorem dX6_init_64 : decode cX6_init 64 = .ok (.istore_n 1, 1) := by decide +kernel
theorem dX6_init_65 : decode cX6_init 65 = .ok (.iload_n 1, 1) := by decide +kernel
theorem dX6_init_66 : decode cX6_init 66 = .ok (.aload_n 0, 1) := by decide +kernel
theorem dX6_init_67 : decode cX6_init 67 = .ok (.getfield 11, 3) := by decide +kernel
theorem dX6_init_70 : decode cX6_init 70 = .ok (.arraylength, 1) := by decide +kernel
theorem dX6_init_71 : decode cX6_init 71 = .ok (.if_icmp .ge 22, 3) := by decide +kernel
theorem dX6_init_74 : decode cX6_init 74 = .ok (.aload_n 0, 1) := by decide +kernel
theorem dX6_init_75 : decode cX6_init 75 = .ok (.getfield 11, 3) := by decide +kernel
theorem dX6_init_78 : decode cX6_init 78 = .ok (.iload_n 1, 1) := by decide +kernel
theorem dX6_init_79 : decode cX6_init 79 = .ok (.new 9, 3) := by decide +kernel
theorem dX6_init_82 : decode cX6_init 82 = .ok (.dup, 1) := by decide +kernel
theorem dX6_init_83 : decode cX6_init 83 = .ok (.invokespecial 44, 3) := by decide +kernel
theorem dX6_init_86 : decode cX6_init 86 = .ok (.aastore, 1) := by decide +kernel
theorem dX6_init_87 : decode cX6_init 87 = .ok (.iinc 1 1, 3) := by decide +kernel
theorem dX6_init_90 : decode cX6_init 90 = .ok (.goto (-25), 3) := by decide +kernel
theorem dX6_init_93 : decode cX6_init 93 = .ok (.iconst 0, 1) := by decide +kernel
theorem dX6_init_94 : decode cX6_init 94 = .ok (.istore_n 1, 1) := by decide +kernel
theorem dX6_init_95 : decode cX6_init 95 = .ok (.iload_n 1, 1) := by decide +kernel
theorem dX6_init_96 : decode cX6_init 96 = .ok (.aload_n 0, 1) := by decide +kernel
theorem dX6_init_97 : decode cX6_init 97 = .ok (.getfield 37, 3) := by decide +kernel
theorem dX6_init_100 : decode cX6_init 100 = .ok (.arraylength, 1) := by decide +kernel
theorem dX6_init_101 : decode cX6_init 101 = .ok (.if_icmp .ge 22, 3) := by decide +kernel
theorem dX6_init_104 : decode cX6_init 104 = .ok (.aload_n 0, 1) := by decide +kernel
theorem dX6_init_105 : decode cX6_init 105 = .ok (.getfield 37, 3) := by decide +kernel
theorem dX6_init_108 : decode cX6_init 108 = .ok (.iload_n 1, 1) := by decide +kernel
theorem dX6_init_109 : decode cX6_init 109 = .ok (.new 35, 3) := by decide +kernel
theorem dX6_init_112 : decode cX6_init 112 = .ok (.dup, 1) := by decide +kernel
theorem dX6_init_113 : decode cX6_init 113 = .ok (.invokespecial 45, 3) := by decide +kernel
theorem dX6_init_116 : decode cX6_init 116 = .ok (.aastore, 1) := by decide +kernel
theorem dX6_init_117 : decode cX6_init 117 = .ok (.iinc 1 1, 3) := by decide +kernel
theorem dX6_init_120 : decode cX6_init 120 = .ok (.goto (-25), 3) := by decide +kernel
theorem dX6_init_123 : decode cX6_init 123 = .ok (.return_, 1) := by decide +kernel
theorem dX6_copyFrom_0 : decode cX6_copyFrom 0 = .ok (.iconst 0, 1) := by decide +kernel
theorem dX6_copyFrom_1 : decode cX6_copyFrom 1 = .ok (.istore_n 2, 1) := by decide +kernel
theorem dX6_copyFrom_2 : decode cX6_copyFrom 2 = .ok (.iload_n 2, 1) := by decide +kernel
theorem dX6_copyFrom_3 : decode cX6_copyFrom 3 = .ok (.aload_n 0, 1) := by decide +kernel
theorem dX6_copyFrom_4 : decode cX6_copyFrom 4 = .ok (.getfield 11, 3) := by decide +kernel
theorem dX6_copyFrom_7 : decode cX6_copyFrom 7 = .ok (.arraylength, 1) := by decide +kernel
theorem dX6_copyFrom_8 : decode cX6_copyFrom 8 = .ok (.if_icmp .ge 24, 3) := by decide +kernel
theorem dX6_copyFrom_11 : decode cX6_copyFrom 11 = .ok (.aload_n 0, 1) := by decide +kernel
theorem dX6_copyFrom_12 : decode cX6_copyFrom 12 = .ok (.getfield 11, 3) := by decide +kernel
theorem dX6_copyFrom_15 : decode cX6_copyFrom 15 = .ok (.iload_n 2, 1) := by decide +kernel
theorem dX6_copyFrom_16 : decode cX6_copyFrom 16 = .ok (.aaload, 1) := by decide +kernel
theorem dX6_copyFrom_17 : decode cX6_copyFrom 17 = .ok (.aload_n 1, 1) := by decide +kernel
theorem dX6_copyFrom_18 : decode cX6_copyFrom 18 = .ok (.getfield 11, 3) := by decide +kernel
theorem dX6_copyFrom_21 : decode cX6_copyFrom 21 = .ok (.iload_n 2, 1) := by decide +kernel
theorem dX6_copyFrom_22 : decode cX6_copyFrom 22 = .ok (.aaload, 1) := by decide +kernel
theorem dX6_copyFrom_23 : decode cX6_copyFrom 23 = .ok (.invokevirtual 46, 3) := by decide +kernel
theorem dX6_copyFrom_26 : decode cX6_copyFrom 26 = .ok (.iinc 2 1, 3) := by decide +kernel
theorem dX6_copyFrom_29 : decode cX6_copyFrom 29 = .ok (.goto (-27), 3) := by decide +kernel
theorem dX6_copyFrom_32 : decode cX6_copyFrom 32 = .ok (.iconst 0, 1) := by decide +kernel
theorem dX6_copyFrom_33 : decode cX6_copyFrom 33 = .ok (.istore_n 2, 1) := by decide +kernel
theorem dX6_copyFrom_34 : decode cX6_copyFrom 34 = .ok (.iload_n 2, 1) := by decide +kernel
theorem dX6_copyFrom_35 : decode cX6_copyFrom 35 = .ok (.aload_n 0, 1) := by decide +kernel
theorem dX6_copyFrom_36 : decode cX6_copyFrom 36 = .ok (.getfield 37, 3) := by decide +kernel
theorem dX6_copyFrom_39 : decode cX6_copyFrom 39 = .ok (.arraylength, 1) := by decide +kernel
theorem dX6_copyFrom_40 : decode cX6_copyFrom 40 = .ok (.if_icmp .ge 24, 3) := by decide +kernel
theorem dX6_copyFrom_43 : decode cX6_copyFrom 43 = .ok (.aload_n 0, 1) := by decide +kernel
theorem dX6_copyFrom_44 : decode cX6_copyFrom 44 = .ok (.getfield 37, 3) := by decide +kernel
theorem dX6_copyFrom_47 : decode cX6_copyFrom 47 = .ok (.iload_n 2, 1) := by decide +kernel
theorem dX6_copyFrom_48 : decode cX6_copyFrom 48 = .ok (.aaload, 1) := by decide +kernel
theorem dX6_copyFrom_49 : decode cX6_copyFrom 49 = .ok (.aload_n 1, 1) := by decide +kernel
theorem dX6_copyFrom_50 : decode cX6_copyFrom 50 = .ok (.getfield 37, 3) := by decide +kernel
theorem dX6_copyFrom_53 : decode cX6_copyFrom 53 = .ok (.iload_n 2, 1) := by decide +kernel
theorem dX6_copyFrom_54 : decode cX6_copyFrom 54 = .ok (.aaload, 1) := by decide +kernel
theorem dX6_copyFrom_55 : decode cX6_copyFrom 55 = .ok (.invokevirtual 50, 3) := by decide +kernel
theorem dX6_copyFrom_58 : decode cX6_copyFrom 58 = .ok (.iinc 2 1, 3) := by decide +kernel
theorem dX6_copyFrom_61 : decode cX6_copyFrom 61 = .ok (.goto (-27), 3) := by decide +kernel
theorem dX6_copyFrom_64 : decode cX6_copyFrom 64 = .ok (.aload_n 1, 1) := by decide +kernel
theorem dX6_copyFrom_65 : decode cX6_copyFrom 65 = .ok (.getfield 17, 3) := by decide +kernel
theorem dX6_copyFrom_68 : decode cX6_copyFrom 68 = .ok (.iconst 0, 1) := by decide +kernel
theorem dX6_copyFrom_69 : decode cX6_copyFrom 69 = .ok (.aload_n 0, 1) := by decide +kernel
theorem dX6_copyFrom_70 : decode cX6_copyFrom 70 = .ok (.getfield 17, 3) := by decide +kernel
theorem dX6_copyFrom_73 : decode cX6_copyFrom 73 = .ok (.iconst 0, 1) := by decide +kernel
theorem dX6_copyFrom_74 : decode cX6_copyFrom 74 = .ok (.aload_n 0, 1) := by decide +kernel
theorem dX6_copyFrom_75 : decode cX6_copyFrom 75 = .ok (.getfield 17, 3) := by decide +kernel
theorem dX6_copyFrom_78 : decode cX6_copyFrom 78 = .ok (.arraylength, 1) := by decide +kernel
theorem dX6_copyFrom_79 : decode cX6_copyFrom 79 = .ok (.invokestatic 53, 3) := by decide +kernel
theorem dX6_copyFrom_82 : decode cX6_copyFrom 82 = .ok (.aload_n 1, 1) := by decide +kernel
theorem dX6_copyFrom_83 : decode cX6_copyFrom 83 = .ok (.getfield 21, 3) := by decide +kernel
theorem dX6_copyFrom_86 : decode cX6_copyFrom 86 = .ok (.iconst 0, 1) := by decide +kernel
theorem dX6_copyFrom_87 : decode cX6_copyFrom 87 = .ok (.aload_n 0, 1) := by decide +kernel
theorem dX6_copyFrom_88 : decode cX6_copyFrom 88 = .ok (.getfield 21, 3) := by decide +kernel
theorem dX6_copyFrom_91 : decode cX6_copyFrom 91 = .ok (.iconst 0, 1) := by decide +kernel
theorem dX6_copyFrom_92 : decode cX6_copyFrom 92 = .ok (.aload_n 0, 1) := by decide +kernel
theorem dX6_copyFrom_93 : decode cX6_copyFrom 93 = .ok (.getfield 21, 3) := by decide +kernel
theorem dX6_copyFrom_96 : decode cX6_copyFrom 96 = .ok (.arraylength, 1) := by decide +kernel
theorem dX6_copyFrom_97 : decode cX6_copyFrom 97 = .ok (.invokestatic 53, 3) := by decide +kernel
theorem dX6_copyFrom_100 : decode cX6_copyFrom 100 = .ok (.aload_n 1, 1) := by decide +kernel
theorem dX6_copyFrom_101 : decode cX6_copyFrom 101 = .ok (.getfield 24, 3) := by decide +kernel
theorem dX6_copyFrom_104 : decode cX6_copyFrom 104 = .ok (.iconst 0, 1) := by decide +kernel
theorem dX6_copyFrom_105 : decode cX6_copyFrom 105 = .ok (.aload_n 0, 1) := by decide +kernel
theorem dX6_copyFrom_106 : decode cX6_copyFrom 106 = .ok (.getfield 24, 3) := by decide +kernel
theorem dX6_copyFrom_109 : decode cX6_copyFrom 109 = .ok (.iconst 0, 1) := by decide +kernel
theorem dX6_copyFrom_110 : decode cX6_copyFrom 110 = .ok (.aload_n 0, 1) := by decide +kernel
theorem dX6_copyFrom_111 : decode cX6_copyFrom 111 = .ok (.getfield 24, 3) := by decide +kernel
theorem dX6_copyFrom_114 : decode cX6_copyFrom 114 = .ok (.arraylength, 1) := by decide +kernel
theorem dX6_copyFrom_115 : decode cX6_copyFrom 115 = .ok (.invokestatic 53, 3) := by decide +kernel
theorem dX6_copyFrom_118 : decode cX6_copyFrom 118 = .ok (.aload_n 1, 1) := by decide +kernel
theorem dX6_copyFrom_119 : decode cX6_copyFrom 119 = .ok (.getfield 31, 3) := by decide +kernel
theorem dX6_copyFrom_122 : decode cX6_copyFrom 122 = .ok (.iconst 0, 1) := by decide +kernel
theorem dX6_copyFrom_123 : decode cX6_copyFrom 123 = .ok (.aload_n 0, 1) := by decide +kernel
theorem dX6_copyFrom_124 : decode cX6_copyFrom 124 = .ok (.getfield 31, 3) := by decide +kernel
theorem dX6_copyFrom_127 : decode cX6_copyFrom 127 = .ok (.iconst 0, 1) := by decide +kernel
theorem dX6_copyFrom_128 : decode cX6_copyFrom 128 = .ok (.aload_n 0, 1) := by decide +kernel
theorem dX6_copyFrom_129 : decode cX6_copyFrom 129 = .ok (.getfield 31, 3) := by decide +kernel
theorem dX6_copyFrom_132 : decode cX6_copyFrom 132 = .ok (.arraylength, 1) := by decide +kernel
theorem dX6_copyFrom_133 : decode cX6_copyFrom 133 = .ok (.invokestatic 53, 3) := by decide +kernel
theorem dX6_copyFrom_136 : decode cX6_copyFrom 136 = .ok (.aload_n 1, 1) := by decide +kernel
theorem dX6_copyFrom_137 : decode cX6_copyFrom 137 = .ok (.getfield 41, 3) := by decide +kernel
theorem dX6_copyFrom_140 : decode cX6_copyFrom 140 = .ok (.iconst 0, 1) := by decide +kernel
theorem dX6_copyFrom_141 : decode cX6_copyFrom 141 = .ok (.aload_n 0, 1) := by decide +kernel
theorem dX6_copyFrom_142 : decode cX6_copyFrom 142 = .ok (.getfield 41, 3) := by decide +kernel
theorem dX6_copyFrom_145 : decode cX6_copyFrom 145 = .ok (.iconst 0, 1) := by decide +kernel
theorem dX6_copyFrom_146 : decode cX6_copyFrom 146 = .ok (.aload_n 0, 1) := by decide +kernel
theorem dX6_copyFrom_147 : decode cX6_copyFrom 147 = .ok (.getfield 41, 3) := by decide +kernel
theorem dX6_copyFrom_150 : decode cX6_copyFrom 150 = .ok (.arraylength, 1) := by decide +kernel
theorem dX6_copyFrom_151 : decode cX6_copyFrom 151 = .ok (.invokestatic 53, 3) := by decide +kernel
theorem dX6_copyFrom_154 : decode cX6_copyFrom 154 = .ok (.aload_n 0, 1) := by decide +kernel
theorem dX6_copyFrom_155 : decode cX6_copyFrom 155 = .ok (.aload_n 1, 1) := by decide +kernel
theorem dX6_copyFrom_156 : decode cX6_copyFrom 156 = .ok (.getfield 59, 3) := by decide +kernel
theorem dX6_copyFrom_159 : decode cX6_copyFrom 159 = .ok (.putfield 59, 3) := by decide +kernel
theorem dX6_copyFrom_162 : decode cX6_copyFrom 162 = .ok (.aload_n 0, 1) := by decide +kernel
theorem dX6_copyFrom_163 : decode cX6_copyFrom 163 = .ok (.aload_n 1, 1) := by decide +kernel
theorem dX6_copyFrom_164 : decode cX6_copyFrom 164 = .ok (.getfield 62, 3) := by decide +kernel
theorem dX6_copyFrom_167 : decode cX6_copyFrom 167 = .ok (.putfield 62, 3) := by decide +kernel
theorem dX6_copyFrom_170 : decode cX6_copyFrom 170 = .ok (.aload_n 0, 1) := by decide +kernel
theorem dX6_copyFrom_171 : decode cX6_copyFrom 171 = .ok (.aload_n 1, 1) := by decide +kernel
theorem dX6_copyFrom_172 : decode cX6_copyFrom 172 = .ok (.getfield 65, 3) := by decide +kernel
theorem dX6_copyFrom_175 : decode cX6_copyFrom 175 = .ok (.putfield 65, 3) := by decide +kernel
theorem dX6_copyFrom_178 : decode cX6_copyFrom 178 = .ok (.aload_n 0, 1) := by decide +kernel
theorem dX6_copyFrom_179 : decode cX6_copyFrom 179 = .ok (.aload_n 1, 1) := by decide +kernel
theorem dX6_copyFrom_180 : decode cX6_copyFrom 180 = .ok (.getfield 68, 3) := by decide +kernel
theorem dX6_copyFrom_183 : decode cX6_copyFrom 183 = .ok (.putfield 68, 3) := by decide +kernel
theorem dX6_copyFrom_186 : decode cX6_copyFrom 186 = .ok (.aload_n 0, 1) := by decide +kernel
theorem dX6_copyFrom_187 : decode cX6_copyFrom 187 = .ok (.aload_n 1, 1) := by decide +kernel
theorem dX6_copyFrom_188 : decode cX6_copyFrom 188 = .ok (.getfield 27, 3) := by decide +kernel
theorem dX6_copyFrom_191 : decode cX6_copyFrom 191 = .ok (.putfield 27, 3) := by decide +kernel
theorem dX6_copyFrom_194 : decode cX6_copyFrom 194 = .ok (.aload_n 0, 1) := by decide +kernel
theorem dX6_copyFrom_195 : decode cX6_copyFrom 195 = .ok (.aload_n 1, 1) := by decide +kernel
theorem dX6_copyFrom_196 : decode cX6_copyFrom 196 = .ok (.getfield 71, 3) := by decide +kernel
theorem dX6_copyFrom_199 : decode cX6_copyFrom 199 = .ok (.putfield 71, 3) := by decide +kernel
theorem dX6_copyFrom_202 : decode cX6_copyFrom 202 = .ok (.aload_n 0, 1) := by decide +kernel
theorem dX6_copyFrom_203 : decode cX6_copyFrom 203 = .ok (.aload_n 1, 1) := by decide +kernel
theorem dX6_copyFrom_204 : decode cX6_copyFrom 204 = .ok (.getfield 74, 3) := by decide +kernel
theorem dX6_copyFrom_207 : decode cX6_copyFrom 207 = .ok (.putfield 74, 3) := by decide +kernel
theorem dX6_copyFrom_210 : decode cX6_copyFrom 210 = .ok (.return_, 1) := by decide +kernel
theorem dX6_allFarms_0 : decode cX6_allFarms 0 = .ok (.iconst 1, 1) := by decide +kernel
theorem dX6_allFarms_1 : decode cX6_allFarms 1 = .ok (.aload_n 0, 1) := by decide +kernel
theorem dX6_allFarms_2 : decode cX6_allFarms 2 = .ok (.getfield 59, 3) := by decide +kernel
theorem dX6_allFarms_5 : decode cX6_allFarms 5 = .ok (.ishl, 1) := by decide +kernel
theorem dX6_allFarms_6 : decode cX6_allFarms 6 = .ok (.iconst 1, 1) := by decide +kernel
theorem dX6_allFarms_7 : decode cX6_allFarms 7 = .ok (.isub, 1) := by decide +kernel
theorem dX6_allFarms_8 : decode cX6_allFarms 8 = .ok (.ireturn, 1) := by decide +kernel
theorem dX6_given_0 : decode cX6_given 0 = .ok (.iload_n 1, 1) := by decide +kernel
theorem dX6_given_1 : decode cX6_given 1 = .ok (.ifCond .ne 8, 3) := by decide +kernel
theorem dX6_given_4 : decode cX6_given 4 = .ok (.bipush 9, 2) := by decide +kernel
theorem dX6_given_6 : decode cX6_given 6 = .ok (.goto 6, 3) := by decide +kernel
theorem dX6_given_9 : decode cX6_given 9 = .ok (.sipush 999, 3) := by decide +kernel
theorem dX6_given_12 : decode cX6_given 12 = .ok (.istore 5, 2) := by decide +kernel
theorem dX6_given_14 : decode cX6_given 14 = .ok (.aload_n 0, 1) := by decide +kernel
theorem dX6_given_15 : decode cX6_given 15 = .ok (.getfield 37, 3) := by decide +kernel
theorem dX6_given_18 : decode cX6_given 18 = .ok (.iload_n 1, 1) := by decide +kernel
theorem dX6_given_19 : decode cX6_given 19 = .ok (.aaload, 1) := by decide +kernel
theorem dX6_given_20 : decode cX6_given 20 = .ok (.invokevirtual 77, 3) := by decide +kernel
theorem dX6_given_23 : decode cX6_given 23 = .ok (.ifCond .eq 19, 3) := by decide +kernel
theorem dX6_given_26 : decode cX6_given 26 = .ok (.aload_n 0, 1) := by decide +kernel
theorem dX6_given_27 : decode cX6_given 27 = .ok (.getfield 37, 3) := by decide +kernel
theorem dX6_given_30 : decode cX6_given 30 = .ok (.iload_n 1, 1) := by decide +kernel
theorem dX6_given_31 : decode cX6_given 31 = .ok (.aaload, 1) := by decide +kernel
theorem dX6_given_32 : decode cX6_given 32 = .ok (.iload_n 2, 1) := by decide +kernel
theorem dX6_given_33 : decode cX6_given 33 = .ok (.iload_n 3, 1) := by decide +kernel
theorem dX6_given_34 : decode cX6_given 34 = .ok (.iload 4, 2) := by decide +kernel
theorem dX6_given_36 : decode cX6_given 36 = .ok (.invokevirtual 81, 3) := by decide +kernel
theorem dX6_given_39 : decode cX6_given 39 = .ok (.goto 4, 3) := by decide +kernel
theorem dX6_given_42 : decode cX6_given 42 = .ok (.iload_n 2, 1) := by decide +kernel
theorem dX6_given_43 : decode cX6_given 43 = .ok (.istore 6, 2) := by decide +kernel
theorem dX6_given_45 : decode cX6_given 45 = .ok (.iconst 0, 1) := by decide +kernel
theorem dX6_given_46 : decode cX6_given 46 = .ok (.iload 5, 2) := by decide +kernel
theorem dX6_given_48 : decode cX6_given 48 = .ok (.iload 6, 2) := by decide +kernel
theorem dX6_given_50 : decode cX6_given 50 = .ok (.invokestatic 85, 3) := by decide +kernel
theorem dX6_given_53 : decode cX6_given 53 = .ok (.invokestatic 91, 3) := by decide +kernel
theorem dX6_given_56 : decode cX6_given 56 = .ok (.ireturn, 1) := by decide +kernel
theorem dX6_growthOf_0 : decode cX6_growthOf 0 = .ok (.aload_n 0, 1) := by decide +kernel
theorem dX6_growthOf_1 : decode cX6_growthOf 1 = .ok (.iconst 0, 1) := by decide +kernel
theorem dX6_growthOf_2 : decode cX6_growthOf 2 = .ok (.aload_n 1, 1) := by decide +kernel
theorem dX6_growthOf_3 : decode cX6_growthOf 3 = .ok (.iload_n 3, 1) := by decide +kernel
theorem dX6_growthOf_4 : decode cX6_growthOf 4 = .ok (.invokevirtual 94, 3) := by decide +kernel
theorem dX6_growthOf_7 : decode cX6_growthOf 7 = .ok (.iload_n 2, 1) := by decide +kernel
theorem dX6_growthOf_8 : decode cX6_growthOf 8 = .ok (.iload_n 3, 1) := by decide +kernel
theorem dX6_growthOf_9 : decode cX6_growthOf 9 = .ok (.bipush 24, 2) := by decide +kernel
theorem dX6_growthOf_11 : decode cX6_growthOf 11 = .ok (.irem, 1) := by decide +kernel
theorem dX6_growthOf_12 : decode cX6_growthOf 12 = .ok (.invokevirtual 98, 3) := by decide +kernel
theorem dX6_growthOf_15 : decode cX6_growthOf 15 = .ok (.ireturn, 1) := by decide +kernel
theorem dX6_payOf_0 : decode cX6_payOf 0 = .ok (.aload_n 0, 1) := by decide +kernel
theorem dX6_payOf_1 : decode cX6_payOf 1 = .ok (.iconst 1, 1) := by decide +kernel
theorem dX6_payOf_2 : decode cX6_payOf 2 = .ok (.aload_n 1, 1) := by decide +kernel
theorem dX6_payOf_3 : decode cX6_payOf 3 = .ok (.invokevirtual 102, 3) := by decide +kernel
theorem dX6_payOf_6 : decode cX6_payOf 6 = .ok (.aload_n 1, 1) := by decide +kernel
theorem dX6_payOf_7 : decode cX6_payOf 7 = .ok (.getfield 106, 3) := by decide +kernel
theorem dX6_payOf_10 : decode cX6_payOf 10 = .ok (.aload_n 1, 1) := by decide +kernel
theorem dX6_payOf_11 : decode cX6_payOf 11 = .ok (.getfield 109, 3) := by decide +kernel
theorem dX6_payOf_14 : decode cX6_payOf 14 = .ok (.invokevirtual 98, 3) := by decide +kernel
theorem dX6_payOf_17 : decode cX6_payOf 17 = .ok (.ireturn, 1) := by decide +kernel
theorem dX6_payOfSet_0 : decode cX6_payOfSet 0 = .ok (.iconst 0, 1) := by decide +kernel
theorem dX6_payOfSet_1 : decode cX6_payOfSet 1 = .ok (.istore_n 2, 1) := by decide +kernel
theorem dX6_payOfSet_2 : decode cX6_payOfSet 2 = .ok (.iconst 0, 1) := by decide +kernel
theorem dX6_payOfSet_3 : decode cX6_payOfSet 3 = .ok (.istore_n 3, 1) := by decide +kernel
theorem dX6_payOfSet_4 : decode cX6_payOfSet 4 = .ok (.iload_n 3, 1) := by decide +kernel
theorem dX6_payOfSet_5 : decode cX6_payOfSet 5 = .ok (.aload_n 0, 1) := by decide +kernel
theorem dX6_payOfSet_6 : decode cX6_payOfSet 6 = .ok (.getfield 59, 3) := by decide +kernel
theorem dX6_payOfSet_9 : decode cX6_payOfSet 9 = .ok (.if_icmp .ge 30, 3) := by decide +kernel
theorem dX6_payOfSet_12 : decode cX6_payOfSet 12 = .ok (.iload_n 1, 1) := by decide +kernel
theorem dX6_payOfSet_13 : decode cX6_payOfSet 13 = .ok (.iload_n 3, 1) := by decide +kernel
theorem dX6_payOfSet_14 : decode cX6_payOfSet 14 = .ok (.ishr, 1) := by decide +kernel
theorem dX6_payOfSet_15 : decode cX6_payOfSet 15 = .ok (.iconst 1, 1) := by decide +kernel
theorem dX6_payOfSet_16 : decode cX6_payOfSet 16 = .ok (.iand, 1) := by decide +kernel
theorem dX6_payOfSet_17 : decode cX6_payOfSet 17 = .ok (.ifCond .eq 16, 3) := by decide +kernel
theorem dX6_payOfSet_20 : decode cX6_payOfSet 20 = .ok (.iload_n 2, 1) := by decide +kernel
theorem dX6_payOfSet_21 : decode cX6_payOfSet 21 = .ok (.aload_n 0, 1) := by decide +kernel
theorem dX6_payOfSet_22 : decode cX6_payOfSet 22 = .ok (.aload_n 0, 1) := by decide +kernel
theorem dX6_payOfSet_23 : decode cX6_payOfSet 23 = .ok (.getfield 11, 3) := by decide +kernel
theorem dX6_payOfSet_26 : decode cX6_payOfSet 26 = .ok (.iload_n 3, 1) := by decide +kernel
theorem dX6_payOfSet_27 : decode cX6_payOfSet 27 = .ok (.aaload, 1) := by decide +kernel
theorem dX6_payOfSet_28 : decode cX6_payOfSet 28 = .ok (.invokevirtual 112, 3) := by decide +kernel
theorem dX6_payOfSet_31 : decode cX6_payOfSet 31 = .ok (.iadd, 1) := by decide +kernel
theorem dX6_payOfSet_32 : decode cX6_payOfSet 32 = .ok (.istore_n 2, 1) := by decide +kernel
theorem dX6_payOfSet_33 : decode cX6_payOfSet 33 = .ok (.iinc 3 1, 3) := by decide +kernel
theorem dX6_payOfSet_36 : decode cX6_payOfSet 36 = .ok (.goto (-32), 3) := by decide +kernel
theorem dX6_payOfSet_39 : decode cX6_payOfSet 39 = .ok (.iload_n 2, 1) := by decide +kernel
theorem dX6_payOfSet_40 : decode cX6_payOfSet 40 = .ok (.ireturn, 1) := by decide +kernel
theorem dX6_dryOfSet_0 : decode cX6_dryOfSet 0 = .ok (.iconst 0, 1) := by decide +kernel
theorem dX6_dryOfSet_1 : decode cX6_dryOfSet 1 = .ok (.istore_n 2, 1) := by decide +kernel
theorem dX6_dryOfSet_2 : decode cX6_dryOfSet 2 = .ok (.iconst 0, 1) := by decide +kernel
theorem dX6_dryOfSet_3 : decode cX6_dryOfSet 3 = .ok (.istore_n 3, 1) := by decide +kernel
theorem dX6_dryOfSet_4 : decode cX6_dryOfSet 4 = .ok (.iload_n 3, 1) := by decide +kernel
theorem dX6_dryOfSet_5 : decode cX6_dryOfSet 5 = .ok (.aload_n 0, 1) := by decide +kernel
theorem dX6_dryOfSet_6 : decode cX6_dryOfSet 6 = .ok (.getfield 59, 3) := by decide +kernel
theorem dX6_dryOfSet_9 : decode cX6_dryOfSet 9 = .ok (.if_icmp .ge 29, 3) := by decide +kernel
theorem dX6_dryOfSet_12 : decode cX6_dryOfSet 12 = .ok (.iload_n 1, 1) := by decide +kernel
theorem dX6_dryOfSet_13 : decode cX6_dryOfSet 13 = .ok (.iload_n 3, 1) := by decide +kernel
theorem dX6_dryOfSet_14 : decode cX6_dryOfSet 14 = .ok (.ishr, 1) := by decide +kernel
theorem dX6_dryOfSet_15 : decode cX6_dryOfSet 15 = .ok (.iconst 1, 1) := by decide +kernel
theorem dX6_dryOfSet_16 : decode cX6_dryOfSet 16 = .ok (.iand, 1) := by decide +kernel
theorem dX6_dryOfSet_17 : decode cX6_dryOfSet 17 = .ok (.ifCond .eq 15, 3) := by decide +kernel
theorem dX6_dryOfSet_20 : decode cX6_dryOfSet 20 = .ok (.iload_n 2, 1) := by decide +kernel
theorem dX6_dryOfSet_21 : decode cX6_dryOfSet 21 = .ok (.aload_n 0, 1) := by decide +kernel
theorem dX6_dryOfSet_22 : decode cX6_dryOfSet 22 = .ok (.getfield 11, 3) := by decide +kernel
theorem dX6_dryOfSet_25 : decode cX6_dryOfSet 25 = .ok (.iload_n 3, 1) := by decide +kernel
theorem dX6_dryOfSet_26 : decode cX6_dryOfSet 26 = .ok (.aaload, 1) := by decide +kernel
theorem dX6_dryOfSet_27 : decode cX6_dryOfSet 27 = .ok (.getfield 106, 3) := by decide +kernel
theorem dX6_dryOfSet_30 : decode cX6_dryOfSet 30 = .ok (.iadd, 1) := by decide +kernel
theorem dX6_dryOfSet_31 : decode cX6_dryOfSet 31 = .ok (.istore_n 2, 1) := by decide +kernel
theorem dX6_dryOfSet_32 : decode cX6_dryOfSet 32 = .ok (.iinc 3 1, 3) := by decide +kernel
theorem dX6_dryOfSet_35 : decode cX6_dryOfSet 35 = .ok (.goto (-31), 3) := by decide +kernel
theorem dX6_dryOfSet_38 : decode cX6_dryOfSet 38 = .ok (.iload_n 2, 1) := by decide +kernel
theorem dX6_dryOfSet_39 : decode cX6_dryOfSet 39 = .ok (.ireturn, 1) := by decide +kernel
theorem dX6_mayBeCarried_0 : decode cX6_mayBeCarried 0 = .ok (.aload_n 0, 1) := by decide +kernel
theorem dX6_mayBeCarried_1 : decode cX6_mayBeCarried 1 = .ok (.iload_n 2, 1) := by decide +kernel
theorem dX6_mayBeCarried_2 : decode cX6_mayBeCarried 2 = .ok (.invokevirtual 116, 3) := by decide +kernel
theorem dX6_mayBeCarried_5 : decode cX6_mayBeCarried 5 = .ok (.istore 4, 2) := by decide +kernel
theorem dX6_mayBeCarried_7 : decode cX6_mayBeCarried 7 = .ok (.iload 4, 2) := by decide +kernel
theorem dX6_mayBeCarried_9 : decode cX6_mayBeCarried 9 = .ok (.aload_n 0, 1) := by decide +kernel
theorem dX6_mayBeCarried_10 : decode cX6_mayBeCarried 10 = .ok (.getfield 17, 3) := by decide +kernel
theorem dX6_mayBeCarried_13 : decode cX6_mayBeCarried 13 = .ok (.iload_n 1, 1) := by decide +kernel
theorem dX6_mayBeCarried_14 : decode cX6_mayBeCarried 14 = .ok (.iaload, 1) := by decide +kernel
theorem dX6_mayBeCarried_15 : decode cX6_mayBeCarried 15 = .ok (.if_icmp .gt 18, 3) := by decide +kernel
theorem dX6_mayBeCarried_18 : decode cX6_mayBeCarried 18 = .ok (.iload 4, 2) := by decide +kernel
theorem dX6_mayBeCarried_20 : decode cX6_mayBeCarried 20 = .ok (.aload_n 0, 1) := by decide +kernel
theorem dX6_mayBeCarried_21 : decode cX6_mayBeCarried 21 = .ok (.getfield 24, 3) := by decide +kernel
theorem dX6_mayBeCarried_24 : decode cX6_mayBeCarried 24 = .ok (.iload_n 3, 1) := by decide +kernel
theorem dX6_mayBeCarried_25 : decode cX6_mayBeCarried 25 = .ok (.iaload, 1) := by decide +kernel
theorem dX6_mayBeCarried_26 : decode cX6_mayBeCarried 26 = .ok (.if_icmp .gt 7, 3) := by decide +kernel
theorem dX6_mayBeCarried_29 : decode cX6_mayBeCarried 29 = .ok (.iconst 1, 1) := by decide +kernel
theorem dX6_mayBeCarried_30 : decode cX6_mayBeCarried 30 = .ok (.goto 4, 3) := by decide +kernel
theorem dX6_mayBeCarried_33 : decode cX6_mayBeCarried 33 = .ok (.iconst 0, 1) := by decide +kernel
theorem dX6_mayBeCarried_34 : decode cX6_mayBeCarried 34 = .ok (.ireturn, 1) := by decide +kernel
theorem dX6_beCarried_0 : decode cX6_beCarried 0 = .ok (.aload_n 0, 1) := by decide +kernel
theorem dX6_beCarried_1 : decode cX6_beCarried 1 = .ok (.iload_n 2, 1) := by decide +kernel
theorem dX6_beCarried_2 : decode cX6_beCarried 2 = .ok (.invokevirtual 119, 3) := by decide +kernel
theorem dX6_beCarried_5 : decode cX6_beCarried 5 = .ok (.istore 4, 2) := by decide +kernel
theorem dX6_beCarried_7 : decode cX6_beCarried 7 = .ok (.aload_n 0, 1) := by decide +kernel
theorem dX6_beCarried_8 : decode cX6_beCarried 8 = .ok (.getfield 24, 3) := by decide +kernel
theorem dX6_beCarried_11 : decode cX6_beCarried 11 = .ok (.iload_n 3, 1) := by decide +kernel
theorem dX6_beCarried_12 : decode cX6_beCarried 12 = .ok (.dup2, 1) := by decide +kernel
theorem dX6_beCarried_13 : decode cX6_beCarried 13 = .ok (.iaload, 1) := by decide +kernel
theorem dX6_beCarried_14 : decode cX6_beCarried 14 = .ok (.aload_n 0, 1) := by decide +kernel
theorem dX6_beCarried_15 : decode cX6_beCarried 15 = .ok (.iload_n 2, 1) := by decide +kernel
theorem dX6_beCarried_16 : decode cX6_beCarried 16 = .ok (.invokevirtual 116, 3) := by decide +kernel
theorem dX6_beCarried_19 : decode cX6_beCarried 19 = .ok (.isub, 1) := by decide +kernel
theorem dX6_beCarried_20 : decode cX6_beCarried 20 = .ok (.iastore, 1) := by decide +kernel
theorem dX6_beCarried_21 : decode cX6_beCarried 21 = .ok (.aload_n 0, 1) := by decide +kernel
theorem dX6_beCarried_22 : decode cX6_beCarried 22 = .ok (.getfield 21, 3) := by decide +kernel
theorem dX6_beCarried_25 : decode cX6_beCarried 25 = .ok (.iload_n 1, 1) := by decide +kernel
theorem dX6_beCarried_26 : decode cX6_beCarried 26 = .ok (.ldc 122, 2) := by decide +kernel
theorem dX6_beCarried_28 : decode cX6_beCarried 28 = .ok (.aload_n 0, 1) := by decide +kernel
theorem dX6_beCarried_29 : decode cX6_beCarried 29 = .ok (.getfield 21, 3) := by decide +kernel
theorem dX6_beCarried_32 : decode cX6_beCarried 32 = .ok (.iload_n 1, 1) := by decide +kernel
theorem dX6_beCarried_33 : decode cX6_beCarried 33 = .ok (.iaload, 1) := by decide +kernel
theorem dX6_beCarried_34 : decode cX6_beCarried 34 = .ok (.iload 4, 2) := by decide +kernel
theorem dX6_beCarried_36 : decode cX6_beCarried 36 = .ok (.iadd, 1) := by decide +kernel
theorem dX6_beCarried_37 : decode cX6_beCarried 37 = .ok (.invokestatic 85, 3) := by decide +kernel
theorem dX6_beCarried_40 : decode cX6_beCarried 40 = .ok (.iastore, 1) := by decide +kernel
theorem dX6_beCarried_41 : decode cX6_beCarried 41 = .ok (.iconst 0, 1) := by decide +kernel
theorem dX6_beCarried_42 : decode cX6_beCarried 42 = .ok (.istore 5, 2) := by decide +kernel
theorem dX6_beCarried_44 : decode cX6_beCarried 44 = .ok (.iload 5, 2) := by decide +kernel
theorem dX6_beCarried_46 : decode cX6_beCarried 46 = .ok (.aload_n 0, 1) := by decide +kernel
theorem dX6_beCarried_47 : decode cX6_beCarried 47 = .ok (.getfield 59, 3) := by decide +kernel
theorem dX6_beCarried_50 : decode cX6_beCarried 50 = .ok (.if_icmp .ge 65, 3) := by decide +kernel
theorem dX6_beCarried_53 : decode cX6_beCarried 53 = .ok (.iload_n 2, 1) := by decide +kernel
theorem dX6_beCarried_54 : decode cX6_beCarried 54 = .ok (.iload 5, 2) := by decide +kernel
theorem dX6_beCarried_56 : decode cX6_beCarried 56 = .ok (.ishr, 1) := by decide +kernel
theorem dX6_beCarried_57 : decode cX6_beCarried 57 = .ok (.iconst 1, 1) := by decide +kernel
theorem dX6_beCarried_58 : decode cX6_beCarried 58 = .ok (.iand, 1) := by decide +kernel
theorem dX6_beCarried_59 : decode cX6_beCarried 59 = .ok (.ifCond .eq 50, 3) := by decide +kernel
theorem dX6_beCarried_62 : decode cX6_beCarried 62 = .ok (.aload_n 0, 1) := by decide +kernel
theorem dX6_beCarried_63 : decode cX6_beCarried 63 = .ok (.getfield 11, 3) := by decide +kernel
theorem dX6_beCarried_66 : decode cX6_beCarried 66 = .ok (.iload 5, 2) := by decide +kernel
theorem dX6_beCarried_68 : decode cX6_beCarried 68 = .ok (.aaload, 1) := by decide +kernel
theorem dX6_beCarried_69 : decode cX6_beCarried 69 = .ok (.ldc 122, 2) := by decide +kernel
theorem dX6_beCarried_71 : decode cX6_beCarried 71 = .ok (.aload_n 0, 1) := by decide +kernel
theorem dX6_beCarried_72 : decode cX6_beCarried 72 = .ok (.getfield 11, 3) := by decide +kernel
theorem dX6_beCarried_75 : decode cX6_beCarried 75 = .ok (.iload 5, 2) := by decide +kernel
theorem dX6_beCarried_77 : decode cX6_beCarried 77 = .ok (.aaload, 1) := by decide +kernel
theorem dX6_beCarried_78 : decode cX6_beCarried 78 = .ok (.getfield 123, 3) := by decide +kernel
theorem dX6_beCarried_81 : decode cX6_beCarried 81 = .ok (.aload_n 0, 1) := by decide +kernel
theorem dX6_beCarried_82 : decode cX6_beCarried 82 = .ok (.getfield 11, 3) := by decide +kernel
theorem dX6_beCarried_85 : decode cX6_beCarried 85 = .ok (.iload 5, 2) := by decide +kernel
theorem dX6_beCarried_87 : decode cX6_beCarried 87 = .ok (.aaload, 1) := by decide +kernel
theorem dX6_beCarried_88 : decode cX6_beCarried 88 = .ok (.getfield 106, 3) := by decide +kernel
theorem dX6_beCarried_91 : decode cX6_beCarried 91 = .ok (.iadd, 1) := by decide +kernel
theorem dX6_beCarried_92 : decode cX6_beCarried 92 = .ok (.invokestatic 85, 3) := by decide +kernel
theorem dX6_beCarried_95 : decode cX6_beCarried 95 = .ok (.putfield 123, 3) := by decide +kernel
theorem dX6_beCarried_98 : decode cX6_beCarried 98 = .ok (.aload_n 0, 1) := by decide +kernel
theorem dX6_beCarried_99 : decode cX6_beCarried 99 = .ok (.getfield 11, 3) := by decide +kernel
theorem dX6_beCarried_102 : decode cX6_beCarried 102 = .ok (.iload 5, 2) := by decide +kernel
theorem dX6_beCarried_104 : decode cX6_beCarried 104 = .ok (.aaload, 1) := by decide +kernel
theorem dX6_beCarried_105 : decode cX6_beCarried 105 = .ok (.iconst 0, 1) := by decide +kernel
theorem dX6_beCarried_106 : decode cX6_beCarried 106 = .ok (.putfield 106, 3) := by decide +kernel
theorem dX6_beCarried_109 : decode cX6_beCarried 109 = .ok (.iinc 5 1, 3) := by decide +kernel
theorem dX6_beCarried_112 : decode cX6_beCarried 112 = .ok (.goto (-68), 3) := by decide +kernel
theorem dX6_beCarried_115 : decode cX6_beCarried 115 = .ok (.iload 4, 2) := by decide +kernel
theorem dX6_beCarried_117 : decode cX6_beCarried 117 = .ok (.ireturn, 1) := by decide +kernel
theorem dX6_carryByDraws_0 : decode cX6_carryByDraws 0 = .ok (.aload_n 0, 1) := by decide +kernel
theorem dX6_carryByDraws_1 : decode cX6_carryByDraws 1 = .ok (.getfield 62, 3) := by decide +kernel
theorem dX6_carryByDraws_4 : decode cX6_carryByDraws 4 = .ok (.ifCond .eq 10, 3) := by decide +kernel
theorem dX6_carryByDraws_7 : decode cX6_carryByDraws 7 = .ok (.aload_n 0, 1) := by decide +kernel
theorem dX6_carryByDraws_8 : decode cX6_carryByDraws 8 = .ok (.getfield 59, 3) := by decide +kernel
theorem dX6_carryByDraws_11 : decode cX6_carryByDraws 11 = .ok (.ifCond .ne 5, 3) := by decide +kernel
theorem dX6_carryByDraws_14 : decode cX6_carryByDraws 14 = .ok (.iconst 0, 1) := by decide +kernel
theorem dX6_carryByDraws_15 : decode cX6_carryByDraws 15 = .ok (.ireturn, 1) := by decide +kernel
theorem dX6_carryByDraws_16 : decode cX6_carryByDraws 16 = .ok (.aload_n 0, 1) := by decide +kernel
theorem dX6_carryByDraws_17 : decode cX6_carryByDraws 17 = .ok (.invokevirtual 126, 3) := by decide +kernel
theorem dX6_carryByDraws_20 : decode cX6_carryByDraws 20 = .ok (.aload_n 0, 1) := by decide +kernel
theorem dX6_carryByDraws_21 : decode cX6_carryByDraws 21 = .ok (.getfield 62, 3) := by decide +kernel
theorem dX6_carryByDraws_24 : decode cX6_carryByDraws 24 = .ok (.irem, 1) := by decide +kernel
theorem dX6_carryByDraws_25 : decode cX6_carryByDraws 25 = .ok (.istore_n 1, 1) := by decide +kernel
theorem dX6_carryByDraws_26 : decode cX6_carryByDraws 26 = .ok (.aload_n 0, 1) := by decide +kernel
theorem dX6_carryByDraws_27 : decode cX6_carryByDraws 27 = .ok (.invokevirtual 126, 3) := by decide +kernel
theorem dX6_carryByDraws_30 : decode cX6_carryByDraws 30 = .ok (.iconst 1, 1) := by decide +kernel
theorem dX6_carryByDraws_31 : decode cX6_carryByDraws 31 = .ok (.aload_n 0, 1) := by decide +kernel
theorem dX6_carryByDraws_32 : decode cX6_carryByDraws 32 = .ok (.getfield 59, 3) := by decide +kernel
theorem dX6_carryByDraws_35 : decode cX6_carryByDraws 35 = .ok (.ishl, 1) := by decide +kernel
theorem dX6_carryByDraws_36 : decode cX6_carryByDraws 36 = .ok (.irem, 1) := by decide +kernel
theorem dX6_carryByDraws_37 : decode cX6_carryByDraws 37 = .ok (.istore_n 2, 1) := by decide +kernel
theorem dX6_carryByDraws_38 : decode cX6_carryByDraws 38 = .ok (.aload_n 0, 1) := by decide +kernel
theorem dX6_carryByDraws_39 : decode cX6_carryByDraws 39 = .ok (.invokevirtual 126, 3) := by decide +kernel
theorem dX6_carryByDraws_42 : decode cX6_carryByDraws 42 = .ok (.iconst 3, 1) := by decide +kernel
theorem dX6_carryByDraws_43 : decode cX6_carryByDraws 43 = .ok (.irem, 1) := by decide +kernel
theorem dX6_carryByDraws_44 : decode cX6_carryByDraws 44 = .ok (.istore_n 3, 1) := by decide +kernel
theorem dX6_carryByDraws_45 : decode cX6_carryByDraws 45 = .ok (.iload_n 2, 1) := by decide +kernel
theorem dX6_carryByDraws_46 : decode cX6_carryByDraws 46 = .ok (.ifCond .eq 23, 3) := by decide +kernel
theorem dX6_carryByDraws_49 : decode cX6_carryByDraws 49 = .ok (.aload_n 0, 1) := by decide +kernel
theorem dX6_carryByDraws_50 : decode cX6_carryByDraws 50 = .ok (.iload_n 1, 1) := by decide +kernel
theorem dX6_carryByDraws_51 : decode cX6_carryByDraws 51 = .ok (.iload_n 2, 1) := by decide +kernel
theorem dX6_carryByDraws_52 : decode cX6_carryByDraws 52 = .ok (.iload_n 3, 1) := by decide +kernel
theorem dX6_carryByDraws_53 : decode cX6_carryByDraws 53 = .ok (.invokevirtual 129, 3) := by decide +kernel
theorem dX6_carryByDraws_56 : decode cX6_carryByDraws 56 = .ok (.ifCond .eq 13, 3) := by decide +kernel
theorem dX6_carryByDraws_59 : decode cX6_carryByDraws 59 = .ok (.aload_n 0, 1) := by decide +kernel
theorem dX6_carryByDraws_60 : decode cX6_carryByDraws 60 = .ok (.iload_n 1, 1) := by decide +kernel
theorem dX6_carryByDraws_61 : decode cX6_carryByDraws 61 = .ok (.iload_n 2, 1) := by decide +kernel
theorem dX6_carryByDraws_62 : decode cX6_carryByDraws 62 = .ok (.iload_n 3, 1) := by decide +kernel
theorem dX6_carryByDraws_63 : decode cX6_carryByDraws 63 = .ok (.invokevirtual 133, 3) := by decide +kernel
theorem dX6_carryByDraws_66 : decode cX6_carryByDraws 66 = .ok (.goto 4, 3) := by decide +kernel
theorem dX6_carryByDraws_69 : decode cX6_carryByDraws 69 = .ok (.iconst 0, 1) := by decide +kernel
theorem dX6_carryByDraws_70 : decode cX6_carryByDraws 70 = .ok (.ireturn, 1) := by decide +kernel
theorem dX6_drawn_0 : decode cX6_drawn 0 = .ok (.aload_n 0, 1) := by decide +kernel
theorem dX6_drawn_1 : decode cX6_drawn 1 = .ok (.aload_n 0, 1) := by decide +kernel
theorem dX6_drawn_2 : decode cX6_drawn 2 = .ok (.getfield 27, 3) := by decide +kernel
theorem dX6_drawn_5 : decode cX6_drawn 5 = .ok (.ldc 136, 2) := by decide +kernel
theorem dX6_drawn_7 : decode cX6_drawn 7 = .ok (.imul, 1) := by decide +kernel
theorem dX6_drawn_8 : decode cX6_drawn 8 = .ok (.sipush 12345, 3) := by decide +kernel
theorem dX6_drawn_11 : decode cX6_drawn 11 = .ok (.iadd, 1) := by decide +kernel
theorem dX6_drawn_12 : decode cX6_drawn 12 = .ok (.putfield 27, 3) := by decide +kernel
theorem dX6_drawn_15 : decode cX6_drawn 15 = .ok (.aload_n 0, 1) := by decide +kernel
theorem dX6_drawn_16 : decode cX6_drawn 16 = .ok (.getfield 27, 3) := by decide +kernel
theorem dX6_drawn_19 : decode cX6_drawn 19 = .ok (.bipush 8, 2) := by decide +kernel
theorem dX6_drawn_21 : decode cX6_drawn 21 = .ok (.iushr, 1) := by decide +kernel
theorem dX6_drawn_22 : decode cX6_drawn 22 = .ok (.ireturn, 1) := by decide +kernel
theorem dX6_goOnAnHour_0 : decode cX6_goOnAnHour 0 = .ok (.iconst 0, 1) := by decide +kernel
theorem dX6_goOnAnHour_1 : decode cX6_goOnAnHour 1 = .ok (.istore_n 1, 1) := by decide +kernel
theorem dX6_goOnAnHour_2 : decode cX6_goOnAnHour 2 = .ok (.iload_n 1, 1) := by decide +kernel
theorem dX6_goOnAnHour_3 : decode cX6_goOnAnHour 3 = .ok (.aload_n 0, 1) := by decide +kernel
theorem dX6_goOnAnHour_4 : decode cX6_goOnAnHour 4 = .ok (.getfield 59, 3) := by decide +kernel
theorem dX6_goOnAnHour_7 : decode cX6_goOnAnHour 7 = .ok (.if_icmp .ge 68, 3) := by decide +kernel
theorem dX6_goOnAnHour_10 : decode cX6_goOnAnHour 10 = .ok (.aload_n 0, 1) := by decide +kernel
theorem dX6_goOnAnHour_11 : decode cX6_goOnAnHour 11 = .ok (.getfield 11, 3) := by decide +kernel
theorem dX6_goOnAnHour_14 : decode cX6_goOnAnHour 14 = .ok (.iload_n 1, 1) := by decide +kernel
theorem dX6_goOnAnHour_15 : decode cX6_goOnAnHour 15 = .ok (.aaload, 1) := by decide +kernel
theorem dX6_goOnAnHour_16 : decode cX6_goOnAnHour 16 = .ok (.astore_n 2, 1) := by decide +kernel
theorem dX6_goOnAnHour_17 : decode cX6_goOnAnHour 17 = .ok (.aload_n 2, 1) := by decide +kernel
theorem dX6_goOnAnHour_18 : decode cX6_goOnAnHour 18 = .ok (.dup, 1) := by decide +kernel
theorem dX6_goOnAnHour_19 : decode cX6_goOnAnHour 19 = .ok (.getfield 106, 3) := by decide +kernel
theorem dX6_goOnAnHour_22 : decode cX6_goOnAnHour 22 = .ok (.aload_n 0, 1) := by decide +kernel
theorem dX6_goOnAnHour_23 : decode cX6_goOnAnHour 23 = .ok (.aload_n 2, 1) := by decide +kernel
theorem dX6_goOnAnHour_24 : decode cX6_goOnAnHour 24 = .ok (.aload_n 2, 1) := by decide +kernel
theorem dX6_goOnAnHour_25 : decode cX6_goOnAnHour 25 = .ok (.getfield 106, 3) := by decide +kernel
theorem dX6_goOnAnHour_28 : decode cX6_goOnAnHour 28 = .ok (.aload_n 0, 1) := by decide +kernel
theorem dX6_goOnAnHour_29 : decode cX6_goOnAnHour 29 = .ok (.getfield 65, 3) := by decide +kernel
theorem dX6_goOnAnHour_32 : decode cX6_goOnAnHour 32 = .ok (.invokevirtual 137, 3) := by decide +kernel
theorem dX6_goOnAnHour_35 : decode cX6_goOnAnHour 35 = .ok (.iadd, 1) := by decide +kernel
theorem dX6_goOnAnHour_36 : decode cX6_goOnAnHour 36 = .ok (.putfield 106, 3) := by decide +kernel
theorem dX6_goOnAnHour_39 : decode cX6_goOnAnHour 39 = .ok (.aload_n 2, 1) := by decide +kernel
theorem dX6_goOnAnHour_40 : decode cX6_goOnAnHour 40 = .ok (.getfield 106, 3) := by decide +kernel
theorem dX6_goOnAnHour_43 : decode cX6_goOnAnHour 43 = .ok (.bipush 99, 2) := by decide +kernel
theorem dX6_goOnAnHour_45 : decode cX6_goOnAnHour 45 = .ok (.if_icmp .le 24, 3) := by decide +kernel
theorem dX6_goOnAnHour_48 : decode cX6_goOnAnHour 48 = .ok (.aload_n 2, 1) := by decide +kernel
theorem dX6_goOnAnHour_49 : decode cX6_goOnAnHour 49 = .ok (.bipush 99, 2) := by decide +kernel
theorem dX6_goOnAnHour_51 : decode cX6_goOnAnHour 51 = .ok (.putfield 106, 3) := by decide +kernel
theorem dX6_goOnAnHour_54 : decode cX6_goOnAnHour 54 = .ok (.aload_n 0, 1) := by decide +kernel
theorem dX6_goOnAnHour_55 : decode cX6_goOnAnHour 55 = .ok (.ldc 122, 2) := by decide +kernel
theorem dX6_goOnAnHour_57 : decode cX6_goOnAnHour 57 = .ok (.aload_n 0, 1) := by decide +kernel
theorem dX6_goOnAnHour_58 : decode cX6_goOnAnHour 58 = .ok (.getfield 68, 3) := by decide +kernel
theorem dX6_goOnAnHour_61 : decode cX6_goOnAnHour 61 = .ok (.iconst 1, 1) := by decide +kernel
theorem dX6_goOnAnHour_62 : decode cX6_goOnAnHour 62 = .ok (.iadd, 1) := by decide +kernel
theorem dX6_goOnAnHour_63 : decode cX6_goOnAnHour 63 = .ok (.invokestatic 85, 3) := by decide +kernel
theorem dX6_goOnAnHour_66 : decode cX6_goOnAnHour 66 = .ok (.putfield 68, 3) := by decide +kernel
theorem dX6_goOnAnHour_69 : decode cX6_goOnAnHour 69 = .ok (.iinc 1 1, 3) := by decide +kernel
theorem dX6_goOnAnHour_72 : decode cX6_goOnAnHour 72 = .ok (.goto (-70), 3) := by decide +kernel
theorem dX6_goOnAnHour_75 : decode cX6_goOnAnHour 75 = .ok (.iconst 0, 1) := by decide +kernel
theorem dX6_goOnAnHour_76 : decode cX6_goOnAnHour 76 = .ok (.istore_n 1, 1) := by decide +kernel
theorem dX6_goOnAnHour_77 : decode cX6_goOnAnHour 77 = .ok (.iload_n 1, 1) := by decide +kernel
theorem dX6_goOnAnHour_78 : decode cX6_goOnAnHour 78 = .ok (.iconst 3, 1) := by decide +kernel
theorem dX6_goOnAnHour_79 : decode cX6_goOnAnHour 79 = .ok (.if_icmp .ge 31, 3) := by decide +kernel
theorem dX6_goOnAnHour_82 : decode cX6_goOnAnHour 82 = .ok (.aload_n 0, 1) := by decide +kernel
theorem dX6_goOnAnHour_83 : decode cX6_goOnAnHour 83 = .ok (.getfield 24, 3) := by decide +kernel
theorem dX6_goOnAnHour_86 : decode cX6_goOnAnHour 86 = .ok (.iload_n 1, 1) := by decide +kernel
theorem dX6_goOnAnHour_87 : decode cX6_goOnAnHour 87 = .ok (.sipush 999, 3) := by decide +kernel
theorem dX6_goOnAnHour_90 : decode cX6_goOnAnHour 90 = .ok (.aload_n 0, 1) := by decide +kernel
theorem dX6_goOnAnHour_91 : decode cX6_goOnAnHour 91 = .ok (.getfield 24, 3) := by decide +kernel
theorem dX6_goOnAnHour_94 : decode cX6_goOnAnHour 94 = .ok (.iload_n 1, 1) := by decide +kernel
theorem dX6_goOnAnHour_95 : decode cX6_goOnAnHour 95 = .ok (.iaload, 1) := by decide +kernel
theorem dX6_goOnAnHour_96 : decode cX6_goOnAnHour 96 = .ok (.iload_n 1, 1) := by decide +kernel
theorem dX6_goOnAnHour_97 : decode cX6_goOnAnHour 97 = .ok (.iadd, 1) := by decide +kernel
theorem dX6_goOnAnHour_98 : decode cX6_goOnAnHour 98 = .ok (.iconst 1, 1) := by decide +kernel
theorem dX6_goOnAnHour_99 : decode cX6_goOnAnHour 99 = .ok (.iadd, 1) := by decide +kernel
theorem dX6_goOnAnHour_100 : decode cX6_goOnAnHour 100 = .ok (.invokestatic 85, 3) := by decide +kernel
theorem dX6_goOnAnHour_103 : decode cX6_goOnAnHour 103 = .ok (.iastore, 1) := by decide +kernel
theorem dX6_goOnAnHour_104 : decode cX6_goOnAnHour 104 = .ok (.iinc 1 1, 3) := by decide +kernel
theorem dX6_goOnAnHour_107 : decode cX6_goOnAnHour 107 = .ok (.goto (-30), 3) := by decide +kernel
theorem dX6_goOnAnHour_110 : decode cX6_goOnAnHour 110 = .ok (.aload_n 0, 1) := by decide +kernel
theorem dX6_goOnAnHour_111 : decode cX6_goOnAnHour 111 = .ok (.dup, 1) := by decide +kernel
theorem dX6_goOnAnHour_112 : decode cX6_goOnAnHour 112 = .ok (.getfield 65, 3) := by decide +kernel
theorem dX6_goOnAnHour_115 : decode cX6_goOnAnHour 115 = .ok (.iconst 1, 1) := by decide +kernel
theorem dX6_goOnAnHour_116 : decode cX6_goOnAnHour 116 = .ok (.iadd, 1) := by decide +kernel
theorem dX6_goOnAnHour_117 : decode cX6_goOnAnHour 117 = .ok (.putfield 65, 3) := by decide +kernel
theorem dX6_goOnAnHour_120 : decode cX6_goOnAnHour 120 = .ok (.return_, 1) := by decide +kernel
theorem dX7_init_0 : decode cX7_init 0 = .ok (.aload_n 0, 1) := by decide +kernel
theorem dX7_init_1 : decode cX7_init 1 = .ok (.invokespecial 1, 3) := by decide +kernel
theorem dX7_init_4 : decode cX7_init 4 = .ok (.aload_n 0, 1) := by decide +kernel
theorem dX7_init_5 : decode cX7_init 5 = .ok (.new 7, 3) := by decide +kernel
theorem dX7_init_8 : decode cX7_init 8 = .ok (.dup, 1) := by decide +kernel
theorem dX7_init_9 : decode cX7_init 9 = .ok (.invokespecial 9, 3) := by decide +kernel
theorem dX7_init_12 : decode cX7_init 12 = .ok (.putfield 10, 3) := by decide +kernel
theorem dX7_init_15 : decode cX7_init 15 = .ok (.aload_n 0, 1) := by decide +kernel
theorem dX7_init_16 : decode cX7_init 16 = .ok (.new 7, 3) := by decide +kernel
theorem dX7_init_19 : decode cX7_init 19 = .ok (.dup, 1) := by decide +kernel
theorem dX7_init_20 : decode cX7_init 20 = .ok (.invokespecial 9, 3) := by decide +kernel
theorem dX7_init_23 : decode cX7_init 23 = .ok (.putfield 16, 3) := by decide +kernel
theorem dX7_init_26 : decode cX7_init 26 = .ok (.aload_n 0, 1) := by decide +kernel
theorem dX7_init_27 : decode cX7_init 27 = .ok (.new 19, 3) := by decide +kernel
theorem dX7_init_30 : decode cX7_init 30 = .ok (.dup, 1) := by decide +kernel
theorem dX7_init_31 : decode cX7_init 31 = .ok (.aload_n 0, 1) := by decide +kernel
theorem dX7_init_32 : decode cX7_init 32 = .ok (.getfield 10, 3) := by decide +kernel
theorem dX7_init_35 : decode cX7_init 35 = .ok (.invokespecial 21, 3) := by decide +kernel
theorem dX7_init_38 : decode cX7_init 38 = .ok (.putfield 24, 3) := by decide +kernel
theorem dX7_init_41 : decode cX7_init 41 = .ok (.aload_n 0, 1) := by decide +kernel
theorem dX7_init_42 : decode cX7_init 42 = .ok (.new 28, 3) := by decide +kernel
theorem dX7_init_45 : decode cX7_init 45 = .ok (.dup, 1) := by decide +kernel
theorem dX7_init_46 : decode cX7_init 46 = .ok (.invokespecial 30, 3) := by decide +kernel
theorem dX7_init_49 : decode cX7_init 49 = .ok (.putfield 31, 3) := by decide +kernel
theorem dX7_init_52 : decode cX7_init 52 = .ok (.aload_n 0, 1) := by decide +kernel
theorem dX7_init_53 : decode cX7_init 53 = .ok (.new 35, 3) := by decide +kernel
theorem dX7_init_56 : decode cX7_init 56 = .ok (.dup, 1) := by decide +kernel
theorem dX7_init_57 : decode cX7_init 57 = .ok (.invokespecial 37, 3) := by decide +kernel
theorem dX7_init_60 : decode cX7_init 60 = .ok (.putfield 38, 3) := by decide +kernel
theorem dX7_init_63 : decode cX7_init 63 = .ok (.aload_n 0, 1) := by decide +kernel
theorem dX7_init_64 : decode cX7_init 64 = .ok (.iconst 4, 1) := by decide +kernel
theorem dX7_init_65 : decode cX7_init 65 = .ok (.anewarray 42, 3) := by decide +kernel
theorem dX7_init_68 : decode cX7_init 68 = .ok (.putfield 44, 3) := by decide +kernel
theorem dX7_init_71 : decode cX7_init 71 = .ok (.aload_n 0, 1) := by decide +kernel
theorem dX7_init_72 : decode cX7_init 72 = .ok (.bipush 7, 2) := by decide +kernel
theorem dX7_init_74 : decode cX7_init 74 = .ok (.newarray .int, 2) := by decide +kernel
theorem dX7_init_76 : decode cX7_init 76 = .ok (.putfield 48, 3) := by decide +kernel
theorem dX7_init_79 : decode cX7_init 79 = .ok (.iconst 0, 1) := by decide +kernel
theorem dX7_init_80 : decode cX7_init 80 = .ok (.istore_n 1, 1) := by decide +kernel
theorem dX7_init_81 : decode cX7_init 81 = .ok (.iload_n 1, 1) := by decide +kernel
theorem dX7_init_82 : decode cX7_init 82 = .ok (.aload_n 0, 1) := by decide +kernel
theorem dX7_init_83 : decode cX7_init 83 = .ok (.getfield 44, 3) := by decide +kernel
theorem dX7_init_86 : decode cX7_init 86 = .ok (.arraylength, 1) := by decide +kernel
theorem dX7_init_87 : decode cX7_init 87 = .ok (.if_icmp .ge 22, 3) := by decide +kernel
theorem dX7_init_90 : decode cX7_init 90 = .ok (.aload_n 0, 1) := by decide +kernel
theorem dX7_init_91 : decode cX7_init 91 = .ok (.getfield 44, 3) := by decide +kernel
theorem dX7_init_94 : decode cX7_init 94 = .ok (.iload_n 1, 1) := by decide +kernel
theorem dX7_init_95 : decode cX7_init 95 = .ok (.new 42, 3) := by decide +kernel
theorem dX7_init_98 : decode cX7_init 98 = .ok (.dup, 1) := by decide +kernel
theorem dX7_init_99 : decode cX7_init 99 = .ok (.invokespecial 52, 3) := by decide +kernel
theorem dX7_init_102 : decode cX7_init 102 = .ok (.aastore, 1) := by decide +kernel
theorem dX7_init_103 : decode cX7_init 103 = .ok (.iinc 1 1, 3) := by decide +kernel
theorem dX7_init_106 : decode cX7_init 106 = .ok (.goto (-25), 3) := by decide +kernel
theorem dX7_init_109 : decode cX7_init 109 = .ok (.return_, 1) := by decide +kernel
theorem dX7_farm_0 : decode cX7_farm 0 = .ok (.iload_n 1, 1) := by decide +kernel
theorem dX7_farm_1 : decode cX7_farm 1 = .ok (.invokestatic 53, 3) := by decide +kernel
theorem dX7_farm_4 : decode cX7_farm 4 = .ok (.ifCond .eq 23, 3) := by decide +kernel
theorem dX7_farm_7 : decode cX7_farm 7 = .ok (.iload_n 2, 1) := by decide +kernel
theorem dX7_farm_8 : decode cX7_farm 8 = .ok (.iconst 1, 1) := by decide +kernel
theorem dX7_farm_9 : decode cX7_farm 9 = .ok (.bipush 40, 2) := by decide +kernel
theorem dX7_farm_11 : decode cX7_farm 11 = .ok (.invokestatic 57, 3) := by decide +kernel
theorem dX7_farm_14 : decode cX7_farm 14 = .ok (.ifCond .eq 13, 3) := by decide +kernel
theorem dX7_farm_17 : decode cX7_farm 17 = .ok (.iload_n 3, 1) := by decide +kernel
theorem dX7_farm_18 : decode cX7_farm 18 = .ok (.iconst 0, 1) := by decide +kernel
theorem dX7_farm_19 : decode cX7_farm 19 = .ok (.bipush 30, 2) := by decide +kernel
theorem dX7_farm_21 : decode cX7_farm 21 = .ok (.invokestatic 57, 3) := by decide +kernel
theorem dX7_farm_24 : decode cX7_farm 24 = .ok (.ifCond .ne 9, 3) := by decide +kernel
theorem dX7_farm_27 : decode cX7_farm 27 = .ok (.aload_n 0, 1) := by decide +kernel
theorem dX7_farm_28 : decode cX7_farm 28 = .ok (.iconst 1, 1) := by decide +kernel
theorem dX7_farm_29 : decode cX7_farm 29 = .ok (.invokevirtual 61, 3) := by decide +kernel
theorem dX7_farm_32 : decode cX7_farm 32 = .ok (.ireturn, 1) := by decide +kernel
theorem dX7_farm_33 : decode cX7_farm 33 = .ok (.aload_n 0, 1) := by decide +kernel
theorem dX7_farm_34 : decode cX7_farm 34 = .ok (.getfield 10, 3) := by decide +kernel
theorem dX7_farm_37 : decode cX7_farm 37 = .ok (.getfield 65, 3) := by decide +kernel
theorem dX7_farm_40 : decode cX7_farm 40 = .ok (.bipush 7, 2) := by decide +kernel
theorem dX7_farm_42 : decode cX7_farm 42 = .ok (.if_icmp .lt 9, 3) := by decide +kernel
theorem dX7_farm_45 : decode cX7_farm 45 = .ok (.aload_n 0, 1) := by decide +kernel
theorem dX7_farm_46 : decode cX7_farm 46 = .ok (.iconst 4, 1) := by decide +kernel
theorem dX7_farm_47 : decode cX7_farm 47 = .ok (.invokevirtual 61, 3) := by decide +kernel
theorem dX7_farm_50 : decode cX7_farm 50 = .ok (.ireturn, 1) := by decide +kernel
theorem dX7_farm_51 : decode cX7_farm 51 = .ok (.aload_n 0, 1) := by decide +kernel
theorem dX7_farm_52 : decode cX7_farm 52 = .ok (.getfield 10, 3) := by decide +kernel
theorem dX7_farm_55 : decode cX7_farm 55 = .ok (.getfield 69, 3) := by decide +kernel
theorem dX7_farm_58 : decode cX7_farm 58 = .ok (.aload_n 0, 1) := by decide +kernel
theorem dX7_farm_59 : decode cX7_farm 59 = .ok (.getfield 10, 3) := by decide +kernel
theorem dX7_farm_62 : decode cX7_farm 62 = .ok (.getfield 65, 3) := by decide +kernel
theorem dX7_farm_65 : decode cX7_farm 65 = .ok (.aaload, 1) := by decide +kernel
theorem dX7_farm_66 : decode cX7_farm 66 = .ok (.iload_n 1, 1) := by decide +kernel
theorem dX7_farm_67 : decode cX7_farm 67 = .ok (.iload_n 2, 1) := by decide +kernel
theorem dX7_farm_68 : decode cX7_farm 68 = .ok (.iload_n 3, 1) := by decide +kernel
theorem dX7_farm_69 : decode cX7_farm 69 = .ok (.invokevirtual 73, 3) := by decide +kernel
theorem dX7_farm_72 : decode cX7_farm 72 = .ok (.aload_n 0, 1) := by decide +kernel
theorem dX7_farm_73 : decode cX7_farm 73 = .ok (.getfield 10, 3) := by decide +kernel
theorem dX7_farm_76 : decode cX7_farm 76 = .ok (.dup, 1) := by decide +kernel
theorem dX7_farm_77 : decode cX7_farm 77 = .ok (.getfield 65, 3) := by decide +kernel
theorem dX7_farm_80 : decode cX7_farm 80 = .ok (.iconst 1, 1) := by decide +kernel
theorem dX7_farm_81 : decode cX7_farm 81 = .ok (.iadd, 1) := by decide +kernel
theorem dX7_farm_82 : decode cX7_farm 82 = .ok (.putfield 65, 3) := by decide +kernel
theorem dX7_farm_85 : decode cX7_farm 85 = .ok (.aload_n 0, 1) := by decide +kernel
theorem dX7_farm_86 : decode cX7_farm 86 = .ok (.getfield 10, 3) := by decide +kernel
theorem dX7_farm_89 : decode cX7_farm 89 = .ok (.getfield 65, 3) := by decide +kernel
theorem dX7_farm_92 : decode cX7_farm 92 = .ok (.iconst 1, 1) := by decide +kernel
theorem dX7_farm_93 : decode cX7_farm 93 = .ok (.isub, 1) := by decide +kernel
theorem dX7_farm_94 : decode cX7_farm 94 = .ok (.ireturn, 1) := by decide +kernel
theorem dX7_farmIs_0 : decode cX7_farmIs 0 = .ok (.aload_n 0, 1) := by decide +kernel
theorem dX7_farmIs_1 : decode cX7_farmIs 1 = .ok (.iload_n 1, 1) := by decide +kernel
theorem dX7_farmIs_2 : decode cX7_farmIs 2 = .ok (.invokevirtual 79, 3) := by decide +kernel
theorem dX7_farmIs_5 : decode cX7_farmIs 5 = .ok (.ifCond .ne 9, 3) := by decide +kernel
theorem dX7_farmIs_8 : decode cX7_farmIs 8 = .ok (.aload_n 0, 1) := by decide +kernel
theorem dX7_farmIs_9 : decode cX7_farmIs 9 = .ok (.iconst 1, 1) := by decide +kernel
theorem dX7_farmIs_10 : decode cX7_farmIs 10 = .ok (.invokevirtual 61, 3) := by decide +kernel
theorem dX7_farmIs_13 : decode cX7_farmIs 13 = .ok (.ireturn, 1) := by decide +kernel
theorem dX7_farmIs_14 : decode cX7_farmIs 14 = .ok (.aload_n 0, 1) := by decide +kernel
theorem dX7_farmIs_15 : decode cX7_farmIs 15 = .ok (.getfield 10, 3) := by decide +kernel
theorem dX7_farmIs_18 : decode cX7_farmIs 18 = .ok (.getfield 69, 3) := by decide +kernel
theorem dX7_farmIs_21 : decode cX7_farmIs 21 = .ok (.iload_n 1, 1) := by decide +kernel
theorem dX7_farmIs_22 : decode cX7_farmIs 22 = .ok (.aaload, 1) := by decide +kernel
theorem dX7_farmIs_23 : decode cX7_farmIs 23 = .ok (.astore_n 3, 1) := by decide +kernel
theorem dX7_farmIs_24 : decode cX7_farmIs 24 = .ok (.iload_n 2, 1) := by decide +kernel
theorem dX7_farmIs_25 : decode cX7_farmIs 25 = .ok (.tableswitch 106 0 7 #[47, 52, 57, 62, 67, 72, 77, 97], 47) := by decide +kernel
theorem dX7_farmIs_72 : decode cX7_farmIs 72 = .ok (.aload_n 3, 1) := by decide +kernel
theorem dX7_farmIs_73 : decode cX7_farmIs 73 = .ok (.getfield 82, 3) := by decide +kernel
theorem dX7_farmIs_76 : decode cX7_farmIs 76 = .ok (.ireturn, 1) := by decide +kernel
theorem dX7_farmIs_77 : decode cX7_farmIs 77 = .ok (.aload_n 3, 1) := by decide +kernel
theorem dX7_farmIs_78 : decode cX7_farmIs 78 = .ok (.getfield 85, 3) := by decide +kernel
theorem dX7_farmIs_81 : decode cX7_farmIs 81 = .ok (.ireturn, 1) := by decide +kernel
theorem dX7_farmIs_82 : decode cX7_farmIs 82 = .ok (.aload_n 3, 1) := by decide +kernel
theorem dX7_farmIs_83 : decode cX7_farmIs 83 = .ok (.getfield 88, 3) := by decide +kernel
theorem dX7_farmIs_86 : decode cX7_farmIs 86 = .ok (.ireturn, 1) := by decide +kernel
theorem dX7_farmIs_87 : decode cX7_farmIs 87 = .ok (.aload_n 3, 1) := by decide +kernel
theorem dX7_farmIs_88 : decode cX7_farmIs 88 = .ok (.getfield 91, 3) := by decide +kernel
theorem dX7_farmIs_91 : decode cX7_farmIs 91 = .ok (.ireturn, 1) := by decide +kernel
theorem dX7_farmIs_92 : decode cX7_farmIs 92 = .ok (.aload_n 3, 1) := by decide +kernel
theorem dX7_farmIs_93 : decode cX7_farmIs 93 = .ok (.getfield 94, 3) := by decide +kernel
theorem dX7_farmIs_96 : decode cX7_farmIs 96 = .ok (.ireturn, 1) := by decide +kernel
theorem dX7_farmIs_97 : decode cX7_farmIs 97 = .ok (.aload_n 3, 1) := by decide +kernel
theorem dX7_farmIs_98 : decode cX7_farmIs 98 = .ok (.getfield 97, 3) := by decide +kernel
theorem dX7_farmIs_101 : decode cX7_farmIs 101 = .ok (.ireturn, 1) := by decide +kernel
theorem dX7_farmIs_102 : decode cX7_farmIs 102 = .ok (.aload_n 0, 1) := by decide +kernel
theorem dX7_farmIs_103 : decode cX7_farmIs 103 = .ok (.getfield 10, 3) := by decide +kernel
theorem dX7_farmIs_106 : decode cX7_farmIs 106 = .ok (.aload_n 3, 1) := by decide +kernel
theorem dX7_farmIs_107 : decode cX7_farmIs 107 = .ok (.aload_n 3, 1) := by decide +kernel
theorem dX7_farmIs_108 : decode cX7_farmIs 108 = .ok (.getfield 94, 3) := by decide +kernel
theorem dX7_farmIs_111 : decode cX7_farmIs 111 = .ok (.aload_n 0, 1) := by decide +kernel
theorem dX7_farmIs_112 : decode cX7_farmIs 112 = .ok (.getfield 10, 3) := by decide +kernel
theorem dX7_farmIs_115 : decode cX7_farmIs 115 = .ok (.getfield 100, 3) := by decide +kernel
theorem dX7_farmIs_118 : decode cX7_farmIs 118 = .ok (.invokevirtual 103, 3) := by decide +kernel
theorem dX7_farmIs_121 : decode cX7_farmIs 121 = .ok (.ireturn, 1) := by decide +kernel
theorem dX7_farmIs_122 : decode cX7_farmIs 122 = .ok (.aload_n 0, 1) := by decide +kernel
theorem dX7_farmIs_123 : decode cX7_farmIs 123 = .ok (.getfield 10, 3) := by decide +kernel
theorem dX7_farmIs_126 : decode cX7_farmIs 126 = .ok (.aload_n 3, 1) := by decide +kernel
theorem dX7_farmIs_127 : decode cX7_farmIs 127 = .ok (.invokevirtual 107, 3) := by decide +kernel
theorem dX7_farmIs_130 : decode cX7_farmIs 130 = .ok (.ireturn, 1) := by decide +kernel
theorem dX7_farmIs_131 : decode cX7_farmIs 131 = .ok (.aload_n 0, 1) := by decide +kernel
theorem dX7_farmIs_132 : decode cX7_farmIs 132 = .ok (.iconst 1, 1) := by decide +kernel
theorem dX7_farmIs_133 : decode cX7_farmIs 133 = .ok (.invokevirtual 61, 3) := by decide +kernel
theorem dX7_farmIs_136 : decode cX7_farmIs 136 = .ok (.ireturn, 1) := by decide +kernel
theorem dX7_become_0 : decode cX7_become 0 = .ok (.aload_n 0, 1) := by decide +kernel
theorem dX7_become_1 : decode cX7_become 1 = .ok (.iload_n 1, 1) := by decide +kernel
theorem dX7_become_2 : decode cX7_become 2 = .ok (.invokevirtual 79, 3) := by decide +kernel
theorem dX7_become_5 : decode cX7_become 5 = .ok (.ifCond .eq 10, 3) := by decide +kernel
theorem dX7_become_8 : decode cX7_become 8 = .ok (.iload_n 2, 1) := by decide +kernel
theorem dX7_become_9 : decode cX7_become 9 = .ok (.invokestatic 53, 3) := by decide +kernel
theorem dX7_become_12 : decode cX7_become 12 = .ok (.ifCond .ne 9, 3) := by decide +kernel
theorem dX7_become_15 : decode cX7_become 15 = .ok (.aload_n 0, 1) := by decide +kernel
theorem dX7_become_16 : decode cX7_become 16 = .ok (.iconst 1, 1) := by decide +kernel
theorem dX7_become_17 : decode cX7_become 17 = .ok (.invokevirtual 61, 3) := by decide +kernel
theorem dX7_become_20 : decode cX7_become 20 = .ok (.ireturn, 1) := by decide +kernel
theorem dX7_become_21 : decode cX7_become 21 = .ok (.aload_n 0, 1) := by decide +kernel
theorem dX7_become_22 : decode cX7_become 22 = .ok (.getfield 10, 3) := by decide +kernel
theorem dX7_become_25 : decode cX7_become 25 = .ok (.getfield 69, 3) := by decide +kernel
theorem dX7_become_28 : decode cX7_become 28 = .ok (.iload_n 1, 1) := by decide +kernel
theorem dX7_become_29 : decode cX7_become 29 = .ok (.aaload, 1) := by decide +kernel
theorem dX7_become_30 : decode cX7_become 30 = .ok (.getfield 82, 3) := by decide +kernel
theorem dX7_become_33 : decode cX7_become 33 = .ok (.istore_n 3, 1) := by decide +kernel
theorem dX7_become_34 : decode cX7_become 34 = .ok (.aload_n 0, 1) := by decide +kernel
theorem dX7_become_35 : decode cX7_become 35 = .ok (.getfield 10, 3) := by decide +kernel
theorem dX7_become_38 : decode cX7_become 38 = .ok (.getfield 69, 3) := by decide +kernel
theorem dX7_become_41 : decode cX7_become 41 = .ok (.iload_n 1, 1) := by decide +kernel
theorem dX7_become_42 : decode cX7_become 42 = .ok (.aaload, 1) := by decide +kernel
theorem dX7_become_43 : decode cX7_become 43 = .ok (.iload_n 2, 1) := by decide +kernel
theorem dX7_become_44 : decode cX7_become 44 = .ok (.invokevirtual 111, 3) := by decide +kernel
theorem dX7_become_47 : decode cX7_become 47 = .ok (.iload_n 3, 1) := by decide +kernel
theorem dX7_become_48 : decode cX7_become 48 = .ok (.ireturn, 1) := by decide +kernel
theorem dX7_as_0 : decode cX7_as 0 = .ok (.aload_n 0, 1) := by decide +kernel
theorem dX7_as_1 : decode cX7_as 1 = .ok (.iload_n 1, 1) := by decide +kernel
theorem dX7_as_2 : decode cX7_as 2 = .ok (.invokevirtual 79, 3) := by decide +kernel
theorem dX7_as_5 : decode cX7_as 5 = .ok (.ifCond .eq 13, 3) := by decide +kernel
theorem dX7_as_8 : decode cX7_as 8 = .ok (.iload_n 2, 1) := by decide +kernel
theorem dX7_as_9 : decode cX7_as 9 = .ok (.iconst 0, 1) := by decide +kernel
theorem dX7_as_10 : decode cX7_as 10 = .ok (.bipush 6, 2) := by decide +kernel
theorem dX7_as_12 : decode cX7_as 12 = .ok (.invokestatic 57, 3) := by decide +kernel
theorem dX7_as_15 : decode cX7_as 15 = .ok (.ifCond .ne 9, 3) := by decide +kernel
theorem dX7_as_18 : decode cX7_as 18 = .ok (.aload_n 0, 1) := by decide +kernel
theorem dX7_as_19 : decode cX7_as 19 = .ok (.iconst 1, 1) := by decide +kernel
theorem dX7_as_20 : decode cX7_as 20 = .ok (.invokevirtual 61, 3) := by decide +kernel
theorem dX7_as_23 : decode cX7_as 23 = .ok (.ireturn, 1) := by decide +kernel
theorem dX7_as_24 : decode cX7_as 24 = .ok (.aload_n 0, 1) := by decide +kernel
theorem dX7_as_25 : decode cX7_as 25 = .ok (.getfield 10, 3) := by decide +kernel
theorem dX7_as_28 : decode cX7_as 28 = .ok (.getfield 69, 3) := by decide +kernel
theorem dX7_as_31 : decode cX7_as 31 = .ok (.iload_n 1, 1) := by decide +kernel
theorem dX7_as_32 : decode cX7_as 32 = .ok (.aaload, 1) := by decide +kernel
theorem dX7_as_33 : decode cX7_as 33 = .ok (.getfield 82, 3) := by decide +kernel
theorem dX7_as_36 : decode cX7_as 36 = .ok (.iload_n 2, 1) := by decide +kernel
theorem dX7_as_37 : decode cX7_as 37 = .ok (.invokestatic 115, 3) := by decide +kernel
theorem dX7_as_40 : decode cX7_as 40 = .ok (.ifCond .ne 9, 3) := by decide +kernel
theorem dX7_as_43 : decode cX7_as 43 = .ok (.aload_n 0, 1) := by decide +kernel
theorem dX7_as_44 : decode cX7_as 44 = .ok (.iconst 5, 1) := by decide +kernel
theorem dX7_as_45 : decode cX7_as 45 = .ok (.invokevirtual 61, 3) := by decide +kernel
theorem dX7_as_48 : decode cX7_as 48 = .ok (.ireturn, 1) := by decide +kernel
theorem dX7_as_49 : decode cX7_as 49 = .ok (.aload_n 0, 1) := by decide +kernel
theorem dX7_as_50 : decode cX7_as 50 = .ok (.getfield 10, 3) := by decide +kernel
theorem dX7_as_53 : decode cX7_as 53 = .ok (.getfield 69, 3) := by decide +kernel
theorem dX7_as_56 : decode cX7_as 56 = .ok (.iload_n 1, 1) := by decide +kernel
theorem dX7_as_57 : decode cX7_as 57 = .ok (.aaload, 1) := by decide +kernel
theorem dX7_as_58 : decode cX7_as 58 = .ok (.getfield 85, 3) := by decide +kernel
theorem dX7_as_61 : decode cX7_as 61 = .ok (.ireturn, 1) := by decide +kernel
theorem dX7_parch_0 : decode cX7_parch 0 = .ok (.aload_n 0, 1) := by decide +kernel
theorem dX7_parch_1 : decode cX7_parch 1 = .ok (.iload_n 1, 1) := by decide +kernel
theorem dX7_parch_2 : decode cX7_parch 2 = .ok (.invokevirtual 79, 3) := by decide +kernel
theorem dX7_parch_5 : decode cX7_parch 5 = .ok (.ifCond .eq 13, 3) := by decide +kernel
theorem dX7_parch_8 : decode cX7_parch 8 = .ok (.iload_n 2, 1) := by decide +kernel
theorem dX7_parch_9 : decode cX7_parch 9 = .ok (.iconst 0, 1) := by decide +kernel
theorem dX7_parch_10 : decode cX7_parch 10 = .ok (.bipush 99, 2) := by decide +kernel
theorem dX7_parch_12 : decode cX7_parch 12 = .ok (.invokestatic 57, 3) := by decide +kernel
theorem dX7_parch_15 : decode cX7_parch 15 = .ok (.ifCond .ne 9, 3) := by decide +kernel
theorem dX7_parch_18 : decode cX7_parch 18 = .ok (.aload_n 0, 1) := by decide +kernel
theorem dX7_parch_19 : decode cX7_parch 19 = .ok (.iconst 1, 1) := by decide +kernel
theorem dX7_parch_20 : decode cX7_parch 20 = .ok (.invokevirtual 61, 3) := by decide +kernel
theorem dX7_parch_23 : decode cX7_parch 23 = .ok (.ireturn, 1) := by decide +kernel
theorem dX7_parch_24 : decode cX7_parch 24 = .ok (.aload_n 0, 1) := by decide +kernel
theorem dX7_parch_25 : decode cX7_parch 25 = .ok (.getfield 10, 3) := by decide +kernel
theorem dX7_parch_28 : decode cX7_parch 28 = .ok (.getfield 69, 3) := by decide +kernel
theorem dX7_parch_31 : decode cX7_parch 31 = .ok (.iload_n 1, 1) := by decide +kernel
theorem dX7_parch_32 : decode cX7_parch 32 = .ok (.aaload, 1) := by decide +kernel
theorem dX7_parch_33 : decode cX7_parch 33 = .ok (.getfield 94, 3) := by decide +kernel
theorem dX7_parch_36 : decode cX7_parch 36 = .ok (.istore_n 3, 1) := by decide +kernel
theorem dX7_parch_37 : decode cX7_parch 37 = .ok (.aload_n 0, 1) := by decide +kernel
theorem dX7_parch_38 : decode cX7_parch 38 = .ok (.getfield 10, 3) := by decide +kernel
theorem dX7_parch_41 : decode cX7_parch 41 = .ok (.getfield 69, 3) := by decide +kernel
theorem dX7_parch_44 : decode cX7_parch 44 = .ok (.iload_n 1, 1) := by decide +kernel
theorem dX7_parch_45 : decode cX7_parch 45 = .ok (.aaload, 1) := by decide +kernel
theorem dX7_parch_46 : decode cX7_parch 46 = .ok (.iload_n 2, 1) := by decide +kernel
theorem dX7_parch_47 : decode cX7_parch 47 = .ok (.putfield 94, 3) := by decide +kernel
theorem dX7_parch_50 : decode cX7_parch 50 = .ok (.iload_n 3, 1) := by decide +kernel
theorem dX7_parch_51 : decode cX7_parch 51 = .ok (.ireturn, 1) := by decide +kernel
theorem dX7_graze_0 : decode cX7_graze 0 = .ok (.aload_n 0, 1) := by decide +kernel
theorem dX7_graze_1 : decode cX7_graze 1 = .ok (.iload_n 1, 1) := by decide +kernel
theorem dX7_graze_2 : decode cX7_graze 2 = .ok (.invokevirtual 79, 3) := by decide +kernel
theorem dX7_graze_5 : decode cX7_graze 5 = .ok (.ifCond .eq 13, 3) := by decide +kernel
theorem dX7_graze_8 : decode cX7_graze 8 = .ok (.iload_n 2, 1) := by decide +kernel
theorem dX7_graze_9 : decode cX7_graze 9 = .ok (.iconst 0, 1) := by decide +kernel
theorem dX7_graze_10 : decode cX7_graze 10 = .ok (.bipush 30, 2) := by decide +kernel
theorem dX7_graze_12 : decode cX7_graze 12 = .ok (.invokestatic 57, 3) := by decide +kernel
theorem dX7_graze_15 : decode cX7_graze 15 = .ok (.ifCond .ne 9, 3) := by decide +kernel
theorem dX7_graze_18 : decode cX7_graze 18 = .ok (.aload_n 0, 1) := by decide +kernel
theorem dX7_graze_19 : decode cX7_graze 19 = .ok (.iconst 1, 1) := by decide +kernel
theorem dX7_graze_20 : decode cX7_graze 20 = .ok (.invokevirtual 61, 3) := by decide +kernel
theorem dX7_graze_23 : decode cX7_graze 23 = .ok (.ireturn, 1) := by decide +kernel
theorem dX7_graze_24 : decode cX7_graze 24 = .ok (.aload_n 0, 1) := by decide +kernel
theorem dX7_graze_25 : decode cX7_graze 25 = .ok (.getfield 10, 3) := by decide +kernel
theorem dX7_graze_28 : decode cX7_graze 28 = .ok (.getfield 69, 3) := by decide +kernel
theorem dX7_graze_31 : decode cX7_graze 31 = .ok (.iload_n 1, 1) := by decide +kernel
theorem dX7_graze_32 : decode cX7_graze 32 = .ok (.aaload, 1) := by decide +kernel
theorem dX7_graze_33 : decode cX7_graze 33 = .ok (.getfield 91, 3) := by decide +kernel
theorem dX7_graze_36 : decode cX7_graze 36 = .ok (.istore_n 3, 1) := by decide +kernel
theorem dX7_graze_37 : decode cX7_graze 37 = .ok (.aload_n 0, 1) := by decide +kernel
theorem dX7_graze_38 : decode cX7_graze 38 = .ok (.getfield 10, 3) := by decide +kernel
theorem dX7_graze_41 : decode cX7_graze 41 = .ok (.getfield 69, 3) := by decide +kernel
theorem dX7_graze_44 : decode cX7_graze 44 = .ok (.iload_n 1, 1) := by decide +kernel
theorem dX7_graze_45 : decode cX7_graze 45 = .ok (.aaload, 1) := by decide +kernel
theorem dX7_graze_46 : decode cX7_graze 46 = .ok (.iload_n 2, 1) := by decide +kernel
theorem dX7_graze_47 : decode cX7_graze 47 = .ok (.putfield 91, 3) := by decide +kernel
theorem dX7_graze_50 : decode cX7_graze 50 = .ok (.iload_n 3, 1) := by decide +kernel
theorem dX7_graze_51 : decode cX7_graze 51 = .ok (.ireturn, 1) := by decide +kernel
theorem dX7_carrier_0 : decode cX7_carrier 0 = .ok (.iload_n 1, 1) := by decide +kernel
theorem dX7_carrier_1 : decode cX7_carrier 1 = .ok (.iconst 1, 1) := by decide +kernel
theorem dX7_carrier_2 : decode cX7_carrier 2 = .ok (.sipush 300, 3) := by decide +kernel
theorem dX7_carrier_5 : decode cX7_carrier 5 = .ok (.invokestatic 57, 3) := by decide +kernel
theorem dX7_carrier_8 : decode cX7_carrier 8 = .ok (.ifCond .ne 9, 3) := by decide +kernel
theorem dX7_carrier_11 : decode cX7_carrier 11 = .ok (.aload_n 0, 1) := by decide +kernel
theorem dX7_carrier_12 : decode cX7_carrier 12 = .ok (.iconst 1, 1) := by decide +kernel
theorem dX7_carrier_13 : decode cX7_carrier 13 = .ok (.invokevirtual 61, 3) := by decide +kernel
theorem dX7_carrier_16 : decode cX7_carrier 16 = .ok (.ireturn, 1) := by decide +kernel
theorem dX7_carrier_17 : decode cX7_carrier 17 = .ok (.aload_n 0, 1) := by decide +kernel
theorem dX7_carrier_18 : decode cX7_carrier 18 = .ok (.getfield 10, 3) := by decide +kernel
theorem dX7_carrier_21 : decode cX7_carrier 21 = .ok (.getfield 119, 3) := by decide +kernel
theorem dX7_carrier_24 : decode cX7_carrier 24 = .ok (.iconst 4, 1) := by decide +kernel
theorem dX7_carrier_25 : decode cX7_carrier 25 = .ok (.if_icmp .lt 9, 3) := by decide +kernel
theorem dX7_carrier_28 : decode cX7_carrier 28 = .ok (.aload_n 0, 1) := by decide +kernel
theorem dX7_carrier_29 : decode cX7_carrier 29 = .ok (.iconst 4, 1) := by decide +kernel
theorem dX7_carrier_30 : decode cX7_carrier 30 = .ok (.invokevirtual 61, 3) := by decide +kernel
theorem dX7_carrier_33 : decode cX7_carrier 33 = .ok (.ireturn, 1) := by decide +kernel
theorem dX7_carrier_34 : decode cX7_carrier 34 = .ok (.aload_n 0, 1) := by decide +kernel
theorem dX7_carrier_35 : decode cX7_carrier 35 = .ok (.getfield 10, 3) := by decide +kernel
theorem dX7_carrier_38 : decode cX7_carrier 38 = .ok (.getfield 122, 3) := by decide +kernel
theorem dX7_carrier_41 : decode cX7_carrier 41 = .ok (.aload_n 0, 1) := by decide +kernel
theorem dX7_carrier_42 : decode cX7_carrier 42 = .ok (.getfield 10, 3) := by decide +kernel
theorem dX7_carrier_45 : decode cX7_carrier 45 = .ok (.getfield 119, 3) := by decide +kernel
theorem dX7_carrier_48 : decode cX7_carrier 48 = .ok (.iload_n 1, 1) := by decide +kernel
theorem dX7_carrier_49 : decode cX7_carrier 49 = .ok (.iastore, 1) := by decide +kernel
theorem dX7_carrier_50 : decode cX7_carrier 50 = .ok (.aload_n 0, 1) := by decide +kernel
theorem dX7_carrier_51 : decode cX7_carrier 51 = .ok (.getfield 10, 3) := by decide +kernel
theorem dX7_carrier_54 : decode cX7_carrier 54 = .ok (.getfield 125, 3) := by decide +kernel
theorem dX7_carrier_57 : decode cX7_carrier 57 = .ok (.aload_n 0, 1) := by decide +kernel
theorem dX7_carrier_58 : decode cX7_carrier 58 = .ok (.getfield 10, 3) := by decide +kernel
theorem dX7_carrier_61 : decode cX7_carrier 61 = .ok (.getfield 119, 3) := by decide +kernel
theorem dX7_carrier_64 : decode cX7_carrier 64 = .ok (.iconst 0, 1) := by decide +kernel
theorem dX7_carrier_65 : decode cX7_carrier 65 = .ok (.iastore, 1) := by decide +kernel
theorem dX7_carrier_66 : decode cX7_carrier 66 = .ok (.aload_n 0, 1) := by decide +kernel
theorem dX7_carrier_67 : decode cX7_carrier 67 = .ok (.getfield 10, 3) := by decide +kernel
theorem dX7_carrier_70 : decode cX7_carrier 70 = .ok (.dup, 1) := by decide +kernel
theorem dX7_carrier_71 : decode cX7_carrier 71 = .ok (.getfield 119, 3) := by decide +kernel
theorem dX7_carrier_74 : decode cX7_carrier 74 = .ok (.iconst 1, 1) := by decide +kernel
theorem dX7_carrier_75 : decode cX7_carrier 75 = .ok (.iadd, 1) := by decide +kernel
theorem dX7_carrier_76 : decode cX7_carrier 76 = .ok (.putfield 119, 3) := by decide +kernel
theorem dX7_carrier_79 : decode cX7_carrier 79 = .ok (.aload_n 0, 1) := by decide +kernel
theorem dX7_carrier_80 : decode cX7_carrier 80 = .ok (.getfield 10, 3) := by decide +kernel
theorem dX7_carrier_83 : decode cX7_carrier 83 = .ok (.getfield 119, 3) := by decide +kernel
theorem dX7_carrier_86 : decode cX7_carrier 86 = .ok (.iconst 1, 1) := by decide +kernel
theorem dX7_carrier_87 : decode cX7_carrier 87 = .ok (.isub, 1) := by decide +kernel
theorem dX7_carrier_88 : decode cX7_carrier 88 = .ok (.ireturn, 1) := by decide +kernel
theorem dX7_carrierIs_0 : decode cX7_carrierIs 0 = .ok (.aload_n 0, 1) := by decide +kernel
theorem dX7_carrierIs_1 : decode cX7_carrierIs 1 = .ok (.iload_n 1, 1) := by decide +kernel
theorem dX7_carrierIs_2 : decode cX7_carrierIs 2 = .ok (.invokevirtual 128, 3) := by decide +kernel
theorem dX7_carrierIs_5 : decode cX7_carrierIs 5 = .ok (.ifCond .eq 12, 3) := by decide +kernel
theorem dX7_carrierIs_8 : decode cX7_carrierIs 8 = .ok (.iload_n 2, 1) := by decide +kernel
theorem dX7_carrierIs_9 : decode cX7_carrierIs 9 = .ok (.iconst 0, 1) := by decide +kernel
theorem dX7_carrierIs_10 : decode cX7_carrierIs 10 = .ok (.iconst 1, 1) := by decide +kernel
theorem dX7_carrierIs_11 : decode cX7_carrierIs 11 = .ok (.invokestatic 57, 3) := by decide +kernel
theorem dX7_carrierIs_14 : decode cX7_carrierIs 14 = .ok (.ifCond .ne 9, 3) := by decide +kernel
theorem dX7_carrierIs_17 : decode cX7_carrierIs 17 = .ok (.aload_n 0, 1) := by decide +kernel
theorem dX7_carrierIs_18 : decode cX7_carrierIs 18 = .ok (.iconst 1, 1) := by decide +kernel
theorem dX7_carrierIs_19 : decode cX7_carrierIs 19 = .ok (.invokevirtual 61, 3) := by decide +kernel
theorem dX7_carrierIs_22 : decode cX7_carrierIs 22 = .ok (.ireturn, 1) := by decide +kernel
theorem dX7_carrierIs_23 : decode cX7_carrierIs 23 = .ok (.iload_n 2, 1) := by decide +kernel
theorem dX7_carrierIs_24 : decode cX7_carrierIs 24 = .ok (.ifCond .ne 15, 3) := by decide +kernel
theorem dX7_carrierIs_27 : decode cX7_carrierIs 27 = .ok (.aload_n 0, 1) := by decide +kernel
theorem dX7_carrierIs_28 : decode cX7_carrierIs 28 = .ok (.getfield 10, 3) := by decide +kernel
theorem dX7_carrierIs_31 : decode cX7_carrierIs 31 = .ok (.getfield 122, 3) := by decide +kernel
theorem dX7_carrierIs_34 : decode cX7_carrierIs 34 = .ok (.iload_n 1, 1) := by decide +kernel
theorem dX7_carrierIs_35 : decode cX7_carrierIs 35 = .ok (.iaload, 1) := by decide +kernel
theorem dX7_carrierIs_36 : decode cX7_carrierIs 36 = .ok (.goto 12, 3) := by decide +kernel
theorem dX7_carrierIs_39 : decode cX7_carrierIs 39 = .ok (.aload_n 0, 1) := by decide +kernel
theorem dX7_carrierIs_40 : decode cX7_carrierIs 40 = .ok (.getfield 10, 3) := by decide +kernel
theorem dX7_carrierIs_43 : decode cX7_carrierIs 43 = .ok (.getfield 125, 3) := by decide +kernel
theorem dX7_carrierIs_46 : decode cX7_carrierIs 46 = .ok (.iload_n 1, 1) := by decide +kernel
theorem dX7_carrierIs_47 : decode cX7_carrierIs 47 = .ok (.iaload, 1) := by decide +kernel
theorem dX7_carrierIs_48 : decode cX7_carrierIs 48 = .ok (.ireturn, 1) := by decide +kernel
theorem dX7_pool_0 : decode cX7_pool 0 = .ok (.iload_n 1, 1) := by decide +kernel
theorem dX7_pool_1 : decode cX7_pool 1 = .ok (.invokestatic 131, 3) := by decide +kernel
theorem dX7_pool_4 : decode cX7_pool 4 = .ok (.ifCond .eq 14, 3) := by decide +kernel
theorem dX7_pool_7 : decode cX7_pool 7 = .ok (.iload_n 2, 1) := by decide +kernel
theorem dX7_pool_8 : decode cX7_pool 8 = .ok (.iconst 0, 1) := by decide +kernel
theorem dX7_pool_9 : decode cX7_pool 9 = .ok (.sipush 999, 3) := by decide +kernel
theorem dX7_pool_12 : decode cX7_pool 12 = .ok (.invokestatic 57, 3) := by decide +kernel
theorem dX7_pool_15 : decode cX7_pool 15 = .ok (.ifCond .ne 9, 3) := by decide +kernel
theorem dX7_pool_18 : decode cX7_pool 18 = .ok (.aload_n 0, 1) := by decide +kernel
theorem dX7_pool_19 : decode cX7_pool 19 = .ok (.iconst 1, 1) := by decide +kernel
theorem dX7_pool_20 : decode cX7_pool 20 = .ok (.invokevirtual 61, 3) := by decide +kernel
theorem dX7_pool_23 : decode cX7_pool 23 = .ok (.ireturn, 1) := by decide +kernel
theorem dX7_pool_24 : decode cX7_pool 24 = .ok (.aload_n 0, 1) := by decide +kernel
theorem dX7_pool_25 : decode cX7_pool 25 = .ok (.getfield 10, 3) := by decide +kernel
theorem dX7_pool_28 : decode cX7_pool 28 = .ok (.getfield 134, 3) := by decide +kernel
theorem dX7_pool_31 : decode cX7_pool 31 = .ok (.iload_n 1, 1) := by decide +kernel
theorem dX7_pool_32 : decode cX7_pool 32 = .ok (.iaload, 1) := by decide +kernel
theorem dX7_pool_33 : decode cX7_pool 33 = .ok (.istore_n 3, 1) := by decide +kernel
theorem dX7_pool_34 : decode cX7_pool 34 = .ok (.aload_n 0, 1) := by decide +kernel
theorem dX7_pool_35 : decode cX7_pool 35 = .ok (.getfield 10, 3) := by decide +kernel
theorem dX7_pool_38 : decode cX7_pool 38 = .ok (.getfield 134, 3) := by decide +kernel
theorem dX7_pool_41 : decode cX7_pool 41 = .ok (.iload_n 1, 1) := by decide +kernel
theorem dX7_pool_42 : decode cX7_pool 42 = .ok (.iload_n 2, 1) := by decide +kernel
theorem dX7_pool_43 : decode cX7_pool 43 = .ok (.iastore, 1) := by decide +kernel
theorem dX7_pool_44 : decode cX7_pool 44 = .ok (.iload_n 3, 1) := by decide +kernel
theorem dX7_pool_45 : decode cX7_pool 45 = .ok (.ireturn, 1) := by decide +kernel
theorem dX7_swap_0 : decode cX7_swap 0 = .ok (.aload_n 0, 1) := by decide +kernel
theorem dX7_swap_1 : decode cX7_swap 1 = .ok (.iload_n 1, 1) := by decide +kernel
theorem dX7_swap_2 : decode cX7_swap 2 = .ok (.invokevirtual 79, 3) := by decide +kernel
theorem dX7_swap_5 : decode cX7_swap 5 = .ok (.ifCond .eq 16, 3) := by decide +kernel
theorem dX7_swap_8 : decode cX7_swap 8 = .ok (.aload_n 0, 1) := by decide +kernel
theorem dX7_swap_9 : decode cX7_swap 9 = .ok (.iload_n 2, 1) := by decide +kernel
theorem dX7_swap_10 : decode cX7_swap 10 = .ok (.invokevirtual 79, 3) := by decide +kernel
theorem dX7_swap_13 : decode cX7_swap 13 = .ok (.ifCond .eq 8, 3) := by decide +kernel
theorem dX7_swap_16 : decode cX7_swap 16 = .ok (.iload_n 1, 1) := by decide +kernel
theorem dX7_swap_17 : decode cX7_swap 17 = .ok (.iload_n 2, 1) := by decide +kernel
theorem dX7_swap_18 : decode cX7_swap 18 = .ok (.if_icmp .ne 9, 3) := by decide +kernel
theorem dX7_swap_21 : decode cX7_swap 21 = .ok (.aload_n 0, 1) := by decide +kernel
theorem dX7_swap_22 : decode cX7_swap 22 = .ok (.iconst 1, 1) := by decide +kernel
theorem dX7_swap_23 : decode cX7_swap 23 = .ok (.invokevirtual 61, 3) := by decide +kernel
theorem dX7_swap_26 : decode cX7_swap 26 = .ok (.ireturn, 1) := by decide +kernel
theorem dX7_swap_27 : decode cX7_swap 27 = .ok (.aload_n 0, 1) := by decide +kernel
theorem dX7_swap_28 : decode cX7_swap 28 = .ok (.getfield 10, 3) := by decide +kernel
theorem dX7_swap_31 : decode cX7_swap 31 = .ok (.getfield 69, 3) := by decide +kernel
theorem dX7_swap_34 : decode cX7_swap 34 = .ok (.iload_n 1, 1) := by decide +kernel
theorem dX7_swap_35 : decode cX7_swap 35 = .ok (.aaload, 1) := by decide +kernel
theorem dX7_swap_36 : decode cX7_swap 36 = .ok (.getfield 94, 3) := by decide +kernel
theorem dX7_swap_39 : decode cX7_swap 39 = .ok (.istore_n 3, 1) := by decide +kernel
theorem dX7_swap_40 : decode cX7_swap 40 = .ok (.aload_n 0, 1) := by decide +kernel
theorem dX7_swap_41 : decode cX7_swap 41 = .ok (.getfield 10, 3) := by decide +kernel
theorem dX7_swap_44 : decode cX7_swap 44 = .ok (.getfield 69, 3) := by decide +kernel
theorem dX7_swap_47 : decode cX7_swap 47 = .ok (.iload_n 1, 1) := by decide +kernel
theorem dX7_swap_48 : decode cX7_swap 48 = .ok (.aaload, 1) := by decide +kernel
theorem dX7_swap_49 : decode cX7_swap 49 = .ok (.aload_n 0, 1) := by decide +kernel
theorem dX7_swap_50 : decode cX7_swap 50 = .ok (.getfield 10, 3) := by decide +kernel
theorem dX7_swap_53 : decode cX7_swap 53 = .ok (.getfield 69, 3) := by decide +kernel
theorem dX7_swap_56 : decode cX7_swap 56 = .ok (.iload_n 2, 1) := by decide +kernel
theorem dX7_swap_57 : decode cX7_swap 57 = .ok (.aaload, 1) := by decide +kernel
theorem dX7_swap_58 : decode cX7_swap 58 = .ok (.getfield 94, 3) := by decide +kernel
theorem dX7_swap_61 : decode cX7_swap 61 = .ok (.putfield 94, 3) := by decide +kernel
theorem dX7_swap_64 : decode cX7_swap 64 = .ok (.aload_n 0, 1) := by decide +kernel
theorem dX7_swap_65 : decode cX7_swap 65 = .ok (.getfield 10, 3) := by decide +kernel
theorem dX7_swap_68 : decode cX7_swap 68 = .ok (.getfield 69, 3) := by decide +kernel
theorem dX7_swap_71 : decode cX7_swap 71 = .ok (.iload_n 2, 1) := by decide +kernel
theorem dX7_swap_72 : decode cX7_swap 72 = .ok (.aaload, 1) := by decide +kernel
theorem dX7_swap_73 : decode cX7_swap 73 = .ok (.iload_n 3, 1) := by decide +kernel
theorem dX7_swap_74 : decode cX7_swap 74 = .ok (.putfield 94, 3) := by decide +kernel
theorem dX7_swap_77 : decode cX7_swap 77 = .ok (.aload_n 0, 1) := by decide +kernel
theorem dX7_swap_78 : decode cX7_swap 78 = .ok (.getfield 10, 3) := by decide +kernel
theorem dX7_swap_81 : decode cX7_swap 81 = .ok (.getfield 69, 3) := by decide +kernel
theorem dX7_swap_84 : decode cX7_swap 84 = .ok (.iload_n 1, 1) := by decide +kernel
theorem dX7_swap_85 : decode cX7_swap 85 = .ok (.aaload, 1) := by decide +kernel
theorem dX7_swap_86 : decode cX7_swap 86 = .ok (.getfield 94, 3) := by decide +kernel
theorem dX7_swap_89 : decode cX7_swap 89 = .ok (.ireturn, 1) := by decide +kernel
theorem dX7_carry_0 : decode cX7_carry 0 = .ok (.aload_n 0, 1) := by decide +kernel
theorem dX7_carry_1 : decode cX7_carry 1 = .ok (.iload_n 1, 1) := by decide +kernel
theorem dX7_carry_2 : decode cX7_carry 2 = .ok (.invokevirtual 128, 3) := by decide +kernel
theorem dX7_carry_5 : decode cX7_carry 5 = .ok (.ifCond .eq 25, 3) := by decide +kernel
theorem dX7_carry_8 : decode cX7_carry 8 = .ok (.iload_n 2, 1) := by decide +kernel
theorem dX7_carry_9 : decode cX7_carry 9 = .ok (.iconst 1, 1) := by decide +kernel
theorem dX7_carry_10 : decode cX7_carry 10 = .ok (.aload_n 0, 1) := by decide +kernel
theorem dX7_carry_11 : decode cX7_carry 11 = .ok (.getfield 10, 3) := by decide +kernel
theorem dX7_carry_14 : decode cX7_carry 14 = .ok (.invokevirtual 137, 3) := by decide +kernel
theorem dX7_carry_17 : decode cX7_carry 17 = .ok (.invokestatic 57, 3) := by decide +kernel
theorem dX7_carry_20 : decode cX7_carry 20 = .ok (.ifCond .eq 10, 3) := by decide +kernel
theorem dX7_carry_23 : decode cX7_carry 23 = .ok (.iload_n 3, 1) := by decide +kernel
theorem dX7_carry_24 : decode cX7_carry 24 = .ok (.invokestatic 131, 3) := by decide +kernel
theorem dX7_carry_27 : decode cX7_carry 27 = .ok (.ifCond .ne 9, 3) := by decide +kernel
theorem dX7_carry_30 : decode cX7_carry 30 = .ok (.aload_n 0, 1) := by decide +kernel
theorem dX7_carry_31 : decode cX7_carry 31 = .ok (.iconst 1, 1) := by decide +kernel
theorem dX7_carry_32 : decode cX7_carry 32 = .ok (.invokevirtual 61, 3) := by decide +kernel
theorem dX7_carry_35 : decode cX7_carry 35 = .ok (.ireturn, 1) := by decide +kernel
theorem dX7_carry_36 : decode cX7_carry 36 = .ok (.aload_n 0, 1) := by decide +kernel
theorem dX7_carry_37 : decode cX7_carry 37 = .ok (.getfield 10, 3) := by decide +kernel
theorem dX7_carry_40 : decode cX7_carry 40 = .ok (.iload_n 1, 1) := by decide +kernel
theorem dX7_carry_41 : decode cX7_carry 41 = .ok (.iload_n 2, 1) := by decide +kernel
theorem dX7_carry_42 : decode cX7_carry 42 = .ok (.iload_n 3, 1) := by decide +kernel
theorem dX7_carry_43 : decode cX7_carry 43 = .ok (.invokevirtual 141, 3) := by decide +kernel
theorem dX7_carry_46 : decode cX7_carry 46 = .ok (.ifCond .ne 9, 3) := by decide +kernel
theorem dX7_carry_49 : decode cX7_carry 49 = .ok (.aload_n 0, 1) := by decide +kernel
theorem dX7_carry_50 : decode cX7_carry 50 = .ok (.iconst 3, 1) := by decide +kernel
theorem dX7_carry_51 : decode cX7_carry 51 = .ok (.invokevirtual 61, 3) := by decide +kernel
theorem dX7_carry_54 : decode cX7_carry 54 = .ok (.ireturn, 1) := by decide +kernel
theorem dX7_carry_55 : decode cX7_carry 55 = .ok (.aload_n 0, 1) := by decide +kernel
theorem dX7_carry_56 : decode cX7_carry 56 = .ok (.getfield 10, 3) := by decide +kernel
theorem dX7_carry_59 : decode cX7_carry 59 = .ok (.iload_n 1, 1) := by decide +kernel
theorem dX7_carry_60 : decode cX7_carry 60 = .ok (.iload_n 2, 1) := by decide +kernel
theorem dX7_carry_61 : decode cX7_carry 61 = .ok (.iload_n 3, 1) := by decide +kernel
theorem dX7_carry_62 : decode cX7_carry 62 = .ok (.invokevirtual 144, 3) := by decide +kernel
theorem dX7_carry_65 : decode cX7_carry 65 = .ok (.ireturn, 1) := by decide +kernel
theorem dX7_feed_0 : decode cX7_feed 0 = .ok (.iload_n 3, 1) := by decide +kernel
theorem dX7_feed_1 : decode cX7_feed 1 = .ok (.iconst 1, 1) := by decide +kernel
theorem dX7_feed_2 : decode cX7_feed 2 = .ok (.bipush 8, 2) := by decide +kernel
theorem dX7_feed_4 : decode cX7_feed 4 = .ok (.invokestatic 57, 3) := by decide +kernel
theorem dX7_feed_7 : decode cX7_feed 7 = .ok (.ifCond .ne 9, 3) := by decide +kernel
theorem dX7_feed_10 : decode cX7_feed 10 = .ok (.aload_n 0, 1) := by decide +kernel
theorem dX7_feed_11 : decode cX7_feed 11 = .ok (.iconst 1, 1) := by decide +kernel
theorem dX7_feed_12 : decode cX7_feed 12 = .ok (.invokevirtual 61, 3) := by decide +kernel
theorem dX7_feed_15 : decode cX7_feed 15 = .ok (.ireturn, 1) := by decide +kernel
theorem dX7_feed_16 : decode cX7_feed 16 = .ok (.aload_n 0, 1) := by decide +kernel
theorem dX7_feed_17 : decode cX7_feed 17 = .ok (.getfield 10, 3) := by decide +kernel
theorem dX7_feed_20 : decode cX7_feed 20 = .ok (.getfield 148, 3) := by decide +kernel
theorem dX7_feed_23 : decode cX7_feed 23 = .ok (.iload_n 3, 1) := by decide +kernel
theorem dX7_feed_24 : decode cX7_feed 24 = .ok (.iadd, 1) := by decide +kernel
theorem dX7_feed_25 : decode cX7_feed 25 = .ok (.bipush 60, 2) := by decide +kernel
theorem dX7_feed_27 : decode cX7_feed 27 = .ok (.if_icmp .le 9, 3) := by decide +kernel
theorem dX7_feed_30 : decode cX7_feed 30 = .ok (.aload_n 0, 1) := by decide +kernel
theorem dX7_feed_31 : decode cX7_feed 31 = .ok (.iconst 4, 1) := by decide +kernel
theorem dX7_feed_32 : decode cX7_feed 32 = .ok (.invokevirtual 61, 3) := by decide +kernel
theorem dX7_feed_35 : decode cX7_feed 35 = .ok (.ireturn, 1) := by decide +kernel
theorem dX7_feed_36 : decode cX7_feed 36 = .ok (.iconst 0, 1) := by decide +kernel
theorem dX7_feed_37 : decode cX7_feed 37 = .ok (.istore 4, 2) := by decide +kernel
theorem dX7_feed_39 : decode cX7_feed 39 = .ok (.iload 4, 2) := by decide +kernel
theorem dX7_feed_41 : decode cX7_feed 41 = .ok (.iload_n 3, 1) := by decide +kernel
theorem dX7_feed_42 : decode cX7_feed 42 = .ok (.if_icmp .ge 36, 3) := by decide +kernel
theorem dX7_feed_45 : decode cX7_feed 45 = .ok (.aload_n 0, 1) := by decide +kernel
theorem dX7_feed_46 : decode cX7_feed 46 = .ok (.getfield 10, 3) := by decide +kernel
theorem dX7_feed_49 : decode cX7_feed 49 = .ok (.getfield 151, 3) := by decide +kernel
theorem dX7_feed_52 : decode cX7_feed 52 = .ok (.aload_n 0, 1) := by decide +kernel
theorem dX7_feed_53 : decode cX7_feed 53 = .ok (.getfield 10, 3) := by decide +kernel
theorem dX7_feed_56 : decode cX7_feed 56 = .ok (.getfield 148, 3) := by decide +kernel
theorem dX7_feed_59 : decode cX7_feed 59 = .ok (.iload 4, 2) := by decide +kernel
theorem dX7_feed_61 : decode cX7_feed 61 = .ok (.iadd, 1) := by decide +kernel
theorem dX7_feed_62 : decode cX7_feed 62 = .ok (.lload_n 1, 1) := by decide +kernel
theorem dX7_feed_63 : decode cX7_feed 63 = .ok (.bipush 8, 2) := by decide +kernel
theorem dX7_feed_65 : decode cX7_feed 65 = .ok (.iload 4, 2) := by decide +kernel
theorem dX7_feed_67 : decode cX7_feed 67 = .ok (.imul, 1) := by decide +kernel
theorem dX7_feed_68 : decode cX7_feed 68 = .ok (.lushr, 1) := by decide +kernel
theorem dX7_feed_69 : decode cX7_feed 69 = .ok (.l2i, 1) := by decide +kernel
theorem dX7_feed_70 : decode cX7_feed 70 = .ok (.i2b, 1) := by decide +kernel
theorem dX7_feed_71 : decode cX7_feed 71 = .ok (.bastore, 1) := by decide +kernel
theorem dX7_feed_72 : decode cX7_feed 72 = .ok (.iinc 4 1, 3) := by decide +kernel
theorem dX7_feed_75 : decode cX7_feed 75 = .ok (.goto (-36), 3) := by decide +kernel
theorem dX7_feed_78 : decode cX7_feed 78 = .ok (.aload_n 0, 1) := by decide +kernel
theorem dX7_feed_79 : decode cX7_feed 79 = .ok (.getfield 10, 3) := by decide +kernel
theorem dX7_feed_82 : decode cX7_feed 82 = .ok (.dup, 1) := by decide +kernel
theorem dX7_feed_83 : decode cX7_feed 83 = .ok (.getfield 148, 3) := by decide +kernel
theorem dX7_feed_86 : decode cX7_feed 86 = .ok (.iload_n 3, 1) := by decide +kernel
theorem dX7_feed_87 : decode cX7_feed 87 = .ok (.iadd, 1) := by decide +kernel
theorem dX7_feed_88 : decode cX7_feed 88 = .ok (.putfield 148, 3) := by decide +kernel
theorem dX7_feed_91 : decode cX7_feed 91 = .ok (.aload_n 0, 1) := by decide +kernel
theorem dX7_feed_92 : decode cX7_feed 92 = .ok (.getfield 10, 3) := by decide +kernel
theorem dX7_feed_95 : decode cX7_feed 95 = .ok (.getfield 148, 3) := by decide +kernel
theorem dX7_feed_98 : decode cX7_feed 98 = .ok (.ireturn, 1) := by decide +kernel
theorem dX7_text_0 : decode cX7_text 0 = .ok (.iload_n 1, 1) := by decide +kernel
theorem dX7_text_1 : decode cX7_text 1 = .ok (.invokestatic 155, 3) := by decide +kernel
theorem dX7_text_4 : decode cX7_text 4 = .ok (.ifCond .ne 9, 3) := by decide +kernel
theorem dX7_text_7 : decode cX7_text 7 = .ok (.aload_n 0, 1) := by decide +kernel
theorem dX7_text_8 : decode cX7_text 8 = .ok (.iconst 1, 1) := by decide +kernel
theorem dX7_text_9 : decode cX7_text 9 = .ok (.invokevirtual 61, 3) := by decide +kernel
theorem dX7_text_12 : decode cX7_text 12 = .ok (.ireturn, 1) := by decide +kernel
theorem dX7_text_13 : decode cX7_text 13 = .ok (.aload_n 0, 1) := by decide +kernel
theorem dX7_text_14 : decode cX7_text 14 = .ok (.getfield 31, 3) := by decide +kernel
theorem dX7_text_17 : decode cX7_text 17 = .ok (.aload_n 0, 1) := by decide +kernel
theorem dX7_text_18 : decode cX7_text 18 = .ok (.getfield 10, 3) := by decide +kernel
theorem dX7_text_21 : decode cX7_text 21 = .ok (.getfield 151, 3) := by decide +kernel
theorem dX7_text_24 : decode cX7_text 24 = .ok (.aload_n 0, 1) := by decide +kernel
theorem dX7_text_25 : decode cX7_text 25 = .ok (.getfield 10, 3) := by decide +kernel
theorem dX7_text_28 : decode cX7_text 28 = .ok (.getfield 148, 3) := by decide +kernel
theorem dX7_text_31 : decode cX7_text 31 = .ok (.iload_n 1, 1) := by decide +kernel
theorem dX7_text_32 : decode cX7_text 32 = .ok (.invokestatic 158, 3) := by decide +kernel
theorem dX7_text_35 : decode cX7_text 35 = .ok (.invokevirtual 162, 3) := by decide +kernel
theorem dX7_text_38 : decode cX7_text 38 = .ok (.istore_n 2, 1) := by decide +kernel
theorem dX7_text_39 : decode cX7_text 39 = .ok (.aload_n 0, 1) := by decide +kernel
theorem dX7_text_40 : decode cX7_text 40 = .ok (.getfield 10, 3) := by decide +kernel
theorem dX7_text_43 : decode cX7_text 43 = .ok (.iconst 0, 1) := by decide +kernel
theorem dX7_text_44 : decode cX7_text 44 = .ok (.putfield 148, 3) := by decide +kernel
theorem dX7_text_47 : decode cX7_text 47 = .ok (.iload_n 2, 1) := by decide +kernel
theorem dX7_text_48 : decode cX7_text 48 = .ok (.ifCond .lt 8, 3) := by decide +kernel
theorem dX7_text_51 : decode cX7_text 51 = .ok (.bipush (-10), 2) := by decide +kernel
theorem dX7_text_53 : decode cX7_text 53 = .ok (.iload_n 2, 1) := by decide +kernel
theorem dX7_text_54 : decode cX7_text 54 = .ok (.isub, 1) := by decide +kernel
theorem dX7_text_55 : decode cX7_text 55 = .ok (.ireturn, 1) := by decide +kernel
theorem dX7_text_56 : decode cX7_text 56 = .ok (.aload_n 0, 1) := by decide +kernel
theorem dX7_text_57 : decode cX7_text 57 = .ok (.getfield 10, 3) := by decide +kernel
theorem dX7_text_60 : decode cX7_text 60 = .ok (.getfield 166, 3) := by decide +kernel
theorem dX7_text_63 : decode cX7_text 63 = .ok (.iload_n 1, 1) := by decide +kernel
theorem dX7_text_64 : decode cX7_text 64 = .ok (.aaload, 1) := by decide +kernel
theorem dX7_text_65 : decode cX7_text 65 = .ok (.aload_n 0, 1) := by decide +kernel
theorem dX7_text_66 : decode cX7_text 66 = .ok (.getfield 31, 3) := by decide +kernel
theorem dX7_text_69 : decode cX7_text 69 = .ok (.getfield 170, 3) := by decide +kernel
theorem dX7_text_72 : decode cX7_text 72 = .ok (.invokevirtual 174, 3) := by decide +kernel
theorem dX7_text_75 : decode cX7_text 75 = .ok (.iconst 1, 1) := by decide +kernel
theorem dX7_text_76 : decode cX7_text 76 = .ok (.ireturn, 1) := by decide +kernel
theorem dX7_untell_0 : decode cX7_untell 0 = .ok (.iload_n 1, 1) := by decide +kernel
theorem dX7_untell_1 : decode cX7_untell 1 = .ok (.invokestatic 155, 3) := by decide +kernel
theorem dX7_untell_4 : decode cX7_untell 4 = .ok (.ifCond .ne 9, 3) := by decide +kernel
theorem dX7_untell_7 : decode cX7_untell 7 = .ok (.aload_n 0, 1) := by decide +kernel
theorem dX7_untell_8 : decode cX7_untell 8 = .ok (.iconst 1, 1) := by decide +kernel
theorem dX7_untell_9 : decode cX7_untell 9 = .ok (.invokevirtual 61, 3) := by decide +kernel
theorem dX7_untell_12 : decode cX7_untell 12 = .ok (.ireturn, 1) := by decide +kernel
theorem dX7_untell_13 : decode cX7_untell 13 = .ok (.aload_n 0, 1) := by decide +kernel
theorem dX7_untell_14 : decode cX7_untell 14 = .ok (.getfield 10, 3) := by decide +kernel
theorem dX7_untell_17 : decode cX7_untell 17 = .ok (.getfield 166, 3) := by decide +kernel
theorem dX7_untell_20 : decode cX7_untell 20 = .ok (.iload_n 1, 1) := by decide +kernel
theorem dX7_untell_21 : decode cX7_untell 21 = .ok (.aaload, 1) := by decide +kernel
theorem dX7_untell_22 : decode cX7_untell 22 = .ok (.invokevirtual 180, 3) := by decide +kernel
theorem dX7_untell_25 : decode cX7_untell 25 = .ok (.ifCond .eq 7, 3) := by decide +kernel
theorem dX7_untell_28 : decode cX7_untell 28 = .ok (.iconst 1, 1) := by decide +kernel
theorem dX7_untell_29 : decode cX7_untell 29 = .ok (.goto 4, 3) := by decide +kernel
theorem dX7_untell_32 : decode cX7_untell 32 = .ok (.iconst 0, 1) := by decide +kernel
theorem dX7_untell_33 : decode cX7_untell 33 = .ok (.istore_n 2, 1) := by decide +kernel
theorem dX7_untell_34 : decode cX7_untell 34 = .ok (.aload_n 0, 1) := by decide +kernel
theorem dX7_untell_35 : decode cX7_untell 35 = .ok (.getfield 10, 3) := by decide +kernel
theorem dX7_untell_38 : decode cX7_untell 38 = .ok (.getfield 166, 3) := by decide +kernel
theorem dX7_untell_41 : decode cX7_untell 41 = .ok (.iload_n 1, 1) := by decide +kernel
theorem dX7_untell_42 : decode cX7_untell 42 = .ok (.aaload, 1) := by decide +kernel
theorem dX7_untell_43 : decode cX7_untell 43 = .ok (.invokevirtual 184, 3) := by decide +kernel
theorem dX7_untell_46 : decode cX7_untell 46 = .ok (.iload_n 2, 1) := by decide +kernel
theorem dX7_untell_47 : decode cX7_untell 47 = .ok (.ireturn, 1) := by decide +kernel
theorem dX7_law_0 : decode cX7_law 0 = .ok (.iload_n 1, 1) := by decide +kernel
theorem dX7_law_1 : decode cX7_law 1 = .ok (.invokestatic 155, 3) := by decide +kernel
theorem dX7_law_4 : decode cX7_law 4 = .ok (.ifCond .eq 18, 3) := by decide +kernel
theorem dX7_law_7 : decode cX7_law 7 = .ok (.aload_n 0, 1) := by decide +kernel
theorem dX7_law_8 : decode cX7_law 8 = .ok (.getfield 10, 3) := by decide +kernel
theorem dX7_law_11 : decode cX7_law 11 = .ok (.iload_n 1, 1) := by decide +kernel
theorem dX7_law_12 : decode cX7_law 12 = .ok (.iload_n 2, 1) := by decide +kernel
theorem dX7_law_13 : decode cX7_law 13 = .ok (.iload_n 3, 1) := by decide +kernel
theorem dX7_law_14 : decode cX7_law 14 = .ok (.iload 4, 2) := by decide +kernel
theorem dX7_law_16 : decode cX7_law 16 = .ok (.invokevirtual 187, 3) := by decide +kernel
theorem dX7_law_19 : decode cX7_law 19 = .ok (.goto 8, 3) := by decide +kernel
theorem dX7_law_22 : decode cX7_law 22 = .ok (.aload_n 0, 1) := by decide +kernel
theorem dX7_law_23 : decode cX7_law 23 = .ok (.iconst 1, 1) := by decide +kernel
theorem dX7_law_24 : decode cX7_law 24 = .ok (.invokevirtual 61, 3) := by decide +kernel
theorem dX7_law_27 : decode cX7_law 27 = .ok (.ireturn, 1) := by decide +kernel
theorem dX7_hours_0 : decode cX7_hours 0 = .ok (.iload_n 1, 1) := by decide +kernel
theorem dX7_hours_1 : decode cX7_hours 1 = .ok (.iconst 1, 1) := by decide +kernel
theorem dX7_hours_2 : decode cX7_hours 2 = .ok (.bipush 72, 2) := by decide +kernel
theorem dX7_hours_4 : decode cX7_hours 4 = .ok (.invokestatic 57, 3) := by decide +kernel
theorem dX7_hours_7 : decode cX7_hours 7 = .ok (.ifCond .ne 9, 3) := by decide +kernel
theorem dX7_hours_10 : decode cX7_hours 10 = .ok (.aload_n 0, 1) := by decide +kernel
theorem dX7_hours_11 : decode cX7_hours 11 = .ok (.iconst 1, 1) := by decide +kernel
theorem dX7_hours_12 : decode cX7_hours 12 = .ok (.invokevirtual 61, 3) := by decide +kernel
theorem dX7_hours_15 : decode cX7_hours 15 = .ok (.ireturn, 1) := by decide +kernel
theorem dX7_hours_16 : decode cX7_hours 16 = .ok (.aload_n 0, 1) := by decide +kernel
theorem dX7_hours_17 : decode cX7_hours 17 = .ok (.getfield 10, 3) := by decide +kernel
theorem dX7_hours_20 : decode cX7_hours 20 = .ok (.getfield 100, 3) := by decide +kernel
theorem dX7_hours_23 : decode cX7_hours 23 = .ok (.iload_n 1, 1) := by decide +kernel
theorem dX7_hours_24 : decode cX7_hours 24 = .ok (.iadd, 1) := by decide +kernel
theorem dX7_hours_25 : decode cX7_hours 25 = .ok (.sipush 9999, 3) := by decide +kernel
theorem dX7_hours_28 : decode cX7_hours 28 = .ok (.if_icmp .le 9, 3) := by decide +kernel
theorem dX7_hours_31 : decode cX7_hours 31 = .ok (.aload_n 0, 1) := by decide +kernel
theorem dX7_hours_32 : decode cX7_hours 32 = .ok (.iconst 3, 1) := by decide +kernel
theorem dX7_hours_33 : decode cX7_hours 33 = .ok (.invokevirtual 61, 3) := by decide +kernel
theorem dX7_hours_36 : decode cX7_hours 36 = .ok (.ireturn, 1) := by decide +kernel
theorem dX7_hours_37 : decode cX7_hours 37 = .ok (.iconst 0, 1) := by decide +kernel
theorem dX7_hours_38 : decode cX7_hours 38 = .ok (.istore_n 2, 1) := by decide +kernel
theorem dX7_hours_39 : decode cX7_hours 39 = .ok (.iload_n 2, 1) := by decide +kernel
theorem dX7_hours_40 : decode cX7_hours 40 = .ok (.iload_n 1, 1) := by decide +kernel
theorem dX7_hours_41 : decode cX7_hours 41 = .ok (.if_icmp .ge 16, 3) := by decide +kernel
theorem dX7_hours_44 : decode cX7_hours 44 = .ok (.aload_n 0, 1) := by decide +kernel
theorem dX7_hours_45 : decode cX7_hours 45 = .ok (.getfield 10, 3) := by decide +kernel
theorem dX7_hours_48 : decode cX7_hours 48 = .ok (.invokevirtual 191, 3) := by decide +kernel
theorem dX7_hours_51 : decode cX7_hours 51 = .ok (.iinc 2 1, 3) := by decide +kernel
theorem dX7_hours_54 : decode cX7_hours 54 = .ok (.goto (-15), 3) := by decide +kernel
theorem dX7_hours_57 : decode cX7_hours 57 = .ok (.aload_n 0, 1) := by decide +kernel
theorem dX7_hours_58 : decode cX7_hours 58 = .ok (.getfield 10, 3) := by decide +kernel
theorem dX7_hours_61 : decode cX7_hours 61 = .ok (.getfield 194, 3) := by decide +kernel
theorem dX7_hours_64 : decode cX7_hours 64 = .ok (.ireturn, 1) := by decide +kernel
theorem dX7_loose_0 : decode cX7_loose 0 = .ok (.iload_n 1, 1) := by decide +kernel
theorem dX7_loose_1 : decode cX7_loose 1 = .ok (.iconst 1, 1) := by decide +kernel
theorem dX7_loose_2 : decode cX7_loose 2 = .ok (.bipush 24, 2) := by decide +kernel
theorem dX7_loose_4 : decode cX7_loose 4 = .ok (.invokestatic 57, 3) := by decide +kernel
theorem dX7_loose_7 : decode cX7_loose 7 = .ok (.ifCond .ne 9, 3) := by decide +kernel
theorem dX7_loose_10 : decode cX7_loose 10 = .ok (.aload_n 0, 1) := by decide +kernel
theorem dX7_loose_11 : decode cX7_loose 11 = .ok (.iconst 1, 1) := by decide +kernel
theorem dX7_loose_12 : decode cX7_loose 12 = .ok (.invokevirtual 61, 3) := by decide +kernel
theorem dX7_loose_15 : decode cX7_loose 15 = .ok (.ireturn, 1) := by decide +kernel
theorem dX7_loose_16 : decode cX7_loose 16 = .ok (.aload_n 0, 1) := by decide +kernel
theorem dX7_loose_17 : decode cX7_loose 17 = .ok (.getfield 10, 3) := by decide +kernel
theorem dX7_loose_20 : decode cX7_loose 20 = .ok (.getfield 100, 3) := by decide +kernel
theorem dX7_loose_23 : decode cX7_loose 23 = .ok (.iload_n 1, 1) := by decide +kernel
theorem dX7_loose_24 : decode cX7_loose 24 = .ok (.iadd, 1) := by decide +kernel
theorem dX7_loose_25 : decode cX7_loose 25 = .ok (.sipush 9999, 3) := by decide +kernel
theorem dX7_loose_28 : decode cX7_loose 28 = .ok (.if_icmp .le 9, 3) := by decide +kernel
theorem dX7_loose_31 : decode cX7_loose 31 = .ok (.aload_n 0, 1) := by decide +kernel
theorem dX7_loose_32 : decode cX7_loose 32 = .ok (.iconst 3, 1) := by decide +kernel
theorem dX7_loose_33 : decode cX7_loose 33 = .ok (.invokevirtual 61, 3) := by decide +kernel
theorem dX7_loose_36 : decode cX7_loose 36 = .ok (.ireturn, 1) := by decide +kernel
theorem dX7_loose_37 : decode cX7_loose 37 = .ok (.iconst 0, 1) := by decide +kernel
theorem dX7_loose_38 : decode cX7_loose 38 = .ok (.istore_n 2, 1) := by decide +kernel
theorem dX7_loose_39 : decode cX7_loose 39 = .ok (.iconst 0, 1) := by decide +kernel
theorem dX7_loose_40 : decode cX7_loose 40 = .ok (.istore_n 3, 1) := by decide +kernel
theorem dX7_loose_41 : decode cX7_loose 41 = .ok (.iload_n 3, 1) := by decide +kernel
theorem dX7_loose_42 : decode cX7_loose 42 = .ok (.iload_n 1, 1) := by decide +kernel
theorem dX7_loose_43 : decode cX7_loose 43 = .ok (.if_icmp .ge 26, 3) := by decide +kernel
theorem dX7_loose_46 : decode cX7_loose 46 = .ok (.iload_n 2, 1) := by decide +kernel
theorem dX7_loose_47 : decode cX7_loose 47 = .ok (.aload_n 0, 1) := by decide +kernel
theorem dX7_loose_48 : decode cX7_loose 48 = .ok (.getfield 10, 3) := by decide +kernel
theorem dX7_loose_51 : decode cX7_loose 51 = .ok (.invokevirtual 197, 3) := by decide +kernel
theorem dX7_loose_54 : decode cX7_loose 54 = .ok (.iadd, 1) := by decide +kernel
theorem dX7_loose_55 : decode cX7_loose 55 = .ok (.istore_n 2, 1) := by decide +kernel
theorem dX7_loose_56 : decode cX7_loose 56 = .ok (.aload_n 0, 1) := by decide +kernel
theorem dX7_loose_57 : decode cX7_loose 57 = .ok (.getfield 10, 3) := by decide +kernel
theorem dX7_loose_60 : decode cX7_loose 60 = .ok (.invokevirtual 191, 3) := by decide +kernel
theorem dX7_loose_63 : decode cX7_loose 63 = .ok (.iinc 3 1, 3) := by decide +kernel
theorem dX7_loose_66 : decode cX7_loose 66 = .ok (.goto (-25), 3) := by decide +kernel
theorem dX7_loose_69 : decode cX7_loose 69 = .ok (.iload_n 2, 1) := by decide +kernel
theorem dX7_loose_70 : decode cX7_loose 70 = .ok (.ireturn, 1) := by decide +kernel
theorem dX7_hour_0 : decode cX7_hour 0 = .ok (.iload_n 1, 1) := by decide +kernel
theorem dX7_hour_1 : decode cX7_hour 1 = .ok (.iconst 0, 1) := by decide +kernel
theorem dX7_hour_2 : decode cX7_hour 2 = .ok (.sipush 9999, 3) := by decide +kernel
theorem dX7_hour_5 : decode cX7_hour 5 = .ok (.invokestatic 57, 3) := by decide +kernel
theorem dX7_hour_8 : decode cX7_hour 8 = .ok (.ifCond .ne 9, 3) := by decide +kernel
theorem dX7_hour_11 : decode cX7_hour 11 = .ok (.aload_n 0, 1) := by decide +kernel
theorem dX7_hour_12 : decode cX7_hour 12 = .ok (.iconst 1, 1) := by decide +kernel
theorem dX7_hour_13 : decode cX7_hour 13 = .ok (.invokevirtual 61, 3) := by decide +kernel
theorem dX7_hour_16 : decode cX7_hour 16 = .ok (.ireturn, 1) := by decide +kernel
theorem dX7_hour_17 : decode cX7_hour 17 = .ok (.aload_n 0, 1) := by decide +kernel
theorem dX7_hour_18 : decode cX7_hour 18 = .ok (.getfield 10, 3) := by decide +kernel
theorem dX7_hour_21 : decode cX7_hour 21 = .ok (.getfield 100, 3) := by decide +kernel
theorem dX7_hour_24 : decode cX7_hour 24 = .ok (.istore_n 2, 1) := by decide +kernel
theorem dX7_hour_25 : decode cX7_hour 25 = .ok (.aload_n 0, 1) := by decide +kernel
theorem dX7_hour_26 : decode cX7_hour 26 = .ok (.getfield 10, 3) := by decide +kernel
theorem dX7_hour_29 : decode cX7_hour 29 = .ok (.iload_n 1, 1) := by decide +kernel
theorem dX7_hour_30 : decode cX7_hour 30 = .ok (.putfield 100, 3) := by decide +kernel
theorem dX7_hour_33 : decode cX7_hour 33 = .ok (.iload_n 2, 1) := by decide +kernel
theorem dX7_hour_34 : decode cX7_hour 34 = .ok (.ireturn, 1) := by decide +kernel
theorem dX7_seed_0 : decode cX7_seed 0 = .ok (.aload_n 0, 1) := by decide +kernel
theorem dX7_seed_1 : decode cX7_seed 1 = .ok (.getfield 10, 3) := by decide +kernel
theorem dX7_seed_4 : decode cX7_seed 4 = .ok (.getfield 200, 3) := by decide +kernel
theorem dX7_seed_7 : decode cX7_seed 7 = .ok (.istore_n 2, 1) := by decide +kernel
theorem dX7_seed_8 : decode cX7_seed 8 = .ok (.aload_n 0, 1) := by decide +kernel
theorem dX7_seed_9 : decode cX7_seed 9 = .ok (.getfield 10, 3) := by decide +kernel
theorem dX7_seed_12 : decode cX7_seed 12 = .ok (.iload_n 1, 1) := by decide +kernel
theorem dX7_seed_13 : decode cX7_seed 13 = .ok (.putfield 200, 3) := by decide +kernel
theorem dX7_seed_16 : decode cX7_seed 16 = .ok (.iload_n 2, 1) := by decide +kernel
theorem dX7_seed_17 : decode cX7_seed 17 = .ok (.ireturn, 1) := by decide +kernel
theorem dX7_then_0 : decode cX7_then 0 = .ok (.aload_n 0, 1) := by decide +kernel
theorem dX7_then_1 : decode cX7_then 1 = .ok (.iload_n 1, 1) := by decide +kernel
theorem dX7_then_2 : decode cX7_then 2 = .ok (.invokevirtual 79, 3) := by decide +kernel
theorem dX7_then_5 : decode cX7_then 5 = .ok (.ifCond .eq 13, 3) := by decide +kernel
theorem dX7_then_8 : decode cX7_then 8 = .ok (.iload_n 2, 1) := by decide +kernel
theorem dX7_then_9 : decode cX7_then 9 = .ok (.iconst 0, 1) := by decide +kernel
theorem dX7_then_10 : decode cX7_then 10 = .ok (.bipush 72, 2) := by decide +kernel
theorem dX7_then_12 : decode cX7_then 12 = .ok (.invokestatic 57, 3) := by decide +kernel
theorem dX7_then_15 : decode cX7_then 15 = .ok (.ifCond .ne 9, 3) := by decide +kernel
theorem dX7_then_18 : decode cX7_then 18 = .ok (.aload_n 0, 1) := by decide +kernel
theorem dX7_then_19 : decode cX7_then 19 = .ok (.iconst 1, 1) := by decide +kernel
theorem dX7_then_20 : decode cX7_then 20 = .ok (.invokevirtual 61, 3) := by decide +kernel
theorem dX7_then_23 : decode cX7_then 23 = .ok (.ireturn, 1) := by decide +kernel
theorem dX7_then_24 : decode cX7_then 24 = .ok (.aload_n 0, 1) := by decide +kernel
theorem dX7_then_25 : decode cX7_then 25 = .ok (.getfield 24, 3) := by decide +kernel
theorem dX7_then_28 : decode cX7_then 28 = .ok (.iload_n 1, 1) := by decide +kernel
theorem dX7_then_29 : decode cX7_then 29 = .ok (.iload_n 2, 1) := by decide +kernel
theorem dX7_then_30 : decode cX7_then 30 = .ok (.invokevirtual 203, 3) := by decide +kernel
theorem dX7_then_33 : decode cX7_then 33 = .ok (.ireturn, 1) := by decide +kernel
theorem dX7_first_0 : decode cX7_first 0 = .ok (.iload_n 1, 1) := by decide +kernel
theorem dX7_first_1 : decode cX7_first 1 = .ok (.iconst 0, 1) := by decide +kernel
theorem dX7_first_2 : decode cX7_first 2 = .ok (.bipush 99, 2) := by decide +kernel
theorem dX7_first_4 : decode cX7_first 4 = .ok (.invokestatic 57, 3) := by decide +kernel
theorem dX7_first_7 : decode cX7_first 7 = .ok (.ifCond .eq 12, 3) := by decide +kernel
theorem dX7_first_10 : decode cX7_first 10 = .ok (.iload_n 2, 1) := by decide +kernel
theorem dX7_first_11 : decode cX7_first 11 = .ok (.iconst 0, 1) := by decide +kernel
theorem dX7_first_12 : decode cX7_first 12 = .ok (.iconst 1, 1) := by decide +kernel
theorem dX7_first_13 : decode cX7_first 13 = .ok (.invokestatic 57, 3) := by decide +kernel
theorem dX7_first_16 : decode cX7_first 16 = .ok (.ifCond .ne 9, 3) := by decide +kernel
theorem dX7_first_19 : decode cX7_first 19 = .ok (.aload_n 0, 1) := by decide +kernel
theorem dX7_first_20 : decode cX7_first 20 = .ok (.iconst 1, 1) := by decide +kernel
theorem dX7_first_21 : decode cX7_first 21 = .ok (.invokevirtual 61, 3) := by decide +kernel
theorem dX7_first_24 : decode cX7_first 24 = .ok (.ireturn, 1) := by decide +kernel
theorem dX7_first_25 : decode cX7_first 25 = .ok (.aload_n 0, 1) := by decide +kernel
theorem dX7_first_26 : decode cX7_first 26 = .ok (.getfield 24, 3) := by decide +kernel
theorem dX7_first_29 : decode cX7_first 29 = .ok (.iload_n 1, 1) := by decide +kernel
theorem dX7_first_30 : decode cX7_first 30 = .ok (.invokevirtual 207, 3) := by decide +kernel
theorem dX7_first_33 : decode cX7_first 33 = .ok (.istore_n 3, 1) := by decide +kernel
theorem dX7_first_34 : decode cX7_first 34 = .ok (.iload_n 3, 1) := by decide +kernel
theorem dX7_first_35 : decode cX7_first 35 = .ok (.ifCond .ge 9, 3) := by decide +kernel
theorem dX7_first_38 : decode cX7_first 38 = .ok (.aload_n 0, 1) := by decide +kernel
theorem dX7_first_39 : decode cX7_first 39 = .ok (.iconst 2, 1) := by decide +kernel
theorem dX7_first_40 : decode cX7_first 40 = .ok (.invokevirtual 61, 3) := by decide +kernel
theorem dX7_first_43 : decode cX7_first 43 = .ok (.ireturn, 1) := by decide +kernel
theorem dX7_first_44 : decode cX7_first 44 = .ok (.iload_n 2, 1) := by decide +kernel
theorem dX7_first_45 : decode cX7_first 45 = .ok (.ifCond .ne 14, 3) := by decide +kernel
theorem dX7_first_48 : decode cX7_first 48 = .ok (.aload_n 0, 1) := by decide +kernel
theorem dX7_first_49 : decode cX7_first 49 = .ok (.getfield 24, 3) := by decide +kernel
theorem dX7_first_52 : decode cX7_first 52 = .ok (.iload_n 1, 1) := by decide +kernel
theorem dX7_first_53 : decode cX7_first 53 = .ok (.invokevirtual 210, 3) := by decide +kernel
theorem dX7_first_56 : decode cX7_first 56 = .ok (.goto 4, 3) := by decide +kernel
theorem dX7_first_59 : decode cX7_first 59 = .ok (.iload_n 3, 1) := by decide +kernel
theorem dX7_first_60 : decode cX7_first 60 = .ok (.ireturn, 1) := by decide +kernel
theorem dX7_round_0 : decode cX7_round 0 = .ok (.aload_n 0, 1) := by decide +kernel
theorem dX7_round_1 : decode cX7_round 1 = .ok (.iload_n 1, 1) := by decide +kernel
theorem dX7_round_2 : decode cX7_round 2 = .ok (.invokevirtual 128, 3) := by decide +kernel
theorem dX7_round_5 : decode cX7_round 5 = .ok (.ifCond .eq 12, 3) := by decide +kernel
theorem dX7_round_8 : decode cX7_round 8 = .ok (.iload_n 2, 1) := by decide +kernel
theorem dX7_round_9 : decode cX7_round 9 = .ok (.iconst 0, 1) := by decide +kernel
theorem dX7_round_10 : decode cX7_round 10 = .ok (.iconst 1, 1) := by decide +kernel
theorem dX7_round_11 : decode cX7_round 11 = .ok (.invokestatic 57, 3) := by decide +kernel
theorem dX7_round_14 : decode cX7_round 14 = .ok (.ifCond .ne 9, 3) := by decide +kernel
theorem dX7_round_17 : decode cX7_round 17 = .ok (.aload_n 0, 1) := by decide +kernel
theorem dX7_round_18 : decode cX7_round 18 = .ok (.iconst 1, 1) := by decide +kernel
theorem dX7_round_19 : decode cX7_round 19 = .ok (.invokevirtual 61, 3) := by decide +kernel
theorem dX7_round_22 : decode cX7_round 22 = .ok (.ireturn, 1) := by decide +kernel
theorem dX7_round_23 : decode cX7_round 23 = .ok (.aload_n 0, 1) := by decide +kernel
theorem dX7_round_24 : decode cX7_round 24 = .ok (.getfield 24, 3) := by decide +kernel
theorem dX7_round_27 : decode cX7_round 27 = .ok (.aload_n 0, 1) := by decide +kernel
theorem dX7_round_28 : decode cX7_round 28 = .ok (.getfield 10, 3) := by decide +kernel
theorem dX7_round_31 : decode cX7_round 31 = .ok (.getfield 122, 3) := by decide +kernel
theorem dX7_round_34 : decode cX7_round 34 = .ok (.iload_n 1, 1) := by decide +kernel
theorem dX7_round_35 : decode cX7_round 35 = .ok (.iaload, 1) := by decide +kernel
theorem dX7_round_36 : decode cX7_round 36 = .ok (.invokevirtual 213, 3) := by decide +kernel
theorem dX7_round_39 : decode cX7_round 39 = .ok (.istore_n 3, 1) := by decide +kernel
theorem dX7_round_40 : decode cX7_round 40 = .ok (.iload_n 2, 1) := by decide +kernel
theorem dX7_round_41 : decode cX7_round 41 = .ok (.ifCond .ne 7, 3) := by decide +kernel
theorem dX7_round_44 : decode cX7_round 44 = .ok (.iload_n 3, 1) := by decide +kernel
theorem dX7_round_45 : decode cX7_round 45 = .ok (.goto 11, 3) := by decide +kernel
theorem dX7_round_48 : decode cX7_round 48 = .ok (.aload_n 0, 1) := by decide +kernel
theorem dX7_round_49 : decode cX7_round 49 = .ok (.getfield 10, 3) := by decide +kernel
theorem dX7_round_52 : decode cX7_round 52 = .ok (.iload_n 3, 1) := by decide +kernel
theorem dX7_round_53 : decode cX7_round 53 = .ok (.invokevirtual 216, 3) := by decide +kernel
theorem dX7_round_56 : decode cX7_round 56 = .ok (.ireturn, 1) := by decide +kernel
theorem dX7_fewest_0 : decode cX7_fewest 0 = .ok (.iload_n 1, 1) := by decide +kernel
theorem dX7_fewest_1 : decode cX7_fewest 1 = .ok (.iconst 0, 1) := by decide +kernel
theorem dX7_fewest_2 : decode cX7_fewest 2 = .ok (.bipush 99, 2) := by decide +kernel
theorem dX7_fewest_4 : decode cX7_fewest 4 = .ok (.invokestatic 57, 3) := by decide +kernel
theorem dX7_fewest_7 : decode cX7_fewest 7 = .ok (.ifCond .eq 13, 3) := by decide +kernel
theorem dX7_fewest_10 : decode cX7_fewest 10 = .ok (.iload_n 2, 1) := by decide +kernel
theorem dX7_fewest_11 : decode cX7_fewest 11 = .ok (.iconst (-1), 1) := by decide +kernel
theorem dX7_fewest_12 : decode cX7_fewest 12 = .ok (.bipush 6, 2) := by decide +kernel
theorem dX7_fewest_14 : decode cX7_fewest 14 = .ok (.invokestatic 57, 3) := by decide +kernel
theorem dX7_fewest_17 : decode cX7_fewest 17 = .ok (.ifCond .ne 9, 3) := by decide +kernel
theorem dX7_fewest_20 : decode cX7_fewest 20 = .ok (.aload_n 0, 1) := by decide +kernel
theorem dX7_fewest_21 : decode cX7_fewest 21 = .ok (.iconst 1, 1) := by decide +kernel
theorem dX7_fewest_22 : decode cX7_fewest 22 = .ok (.invokevirtual 61, 3) := by decide +kernel
theorem dX7_fewest_25 : decode cX7_fewest 25 = .ok (.ireturn, 1) := by decide +kernel
theorem dX7_fewest_26 : decode cX7_fewest 26 = .ok (.aload_n 0, 1) := by decide +kernel
theorem dX7_fewest_27 : decode cX7_fewest 27 = .ok (.getfield 24, 3) := by decide +kernel
theorem dX7_fewest_30 : decode cX7_fewest 30 = .ok (.iload_n 1, 1) := by decide +kernel
theorem dX7_fewest_31 : decode cX7_fewest 31 = .ok (.invokevirtual 219, 3) := by decide +kernel
theorem dX7_fewest_34 : decode cX7_fewest 34 = .ok (.istore_n 3, 1) := by decide +kernel
theorem dX7_fewest_35 : decode cX7_fewest 35 = .ok (.iload_n 3, 1) := by decide +kernel
theorem dX7_fewest_36 : decode cX7_fewest 36 = .ok (.ifCond .ge 9, 3) := by decide +kernel
theorem dX7_fewest_39 : decode cX7_fewest 39 = .ok (.aload_n 0, 1) := by decide +kernel
theorem dX7_fewest_40 : decode cX7_fewest 40 = .ok (.iconst 2, 1) := by decide +kernel
theorem dX7_fewest_41 : decode cX7_fewest 41 = .ok (.invokevirtual 61, 3) := by decide +kernel
theorem dX7_fewest_44 : decode cX7_fewest 44 = .ok (.ireturn, 1) := by decide +kernel
theorem dX7_fewest_45 : decode cX7_fewest 45 = .ok (.iload_n 2, 1) := by decide +kernel
theorem dX7_fewest_46 : decode cX7_fewest 46 = .ok (.ifCond .ge 7, 3) := by decide +kernel
theorem dX7_fewest_49 : decode cX7_fewest 49 = .ok (.iload_n 3, 1) := by decide +kernel
theorem dX7_fewest_50 : decode cX7_fewest 50 = .ok (.goto 11, 3) := by decide +kernel
theorem dX7_fewest_53 : decode cX7_fewest 53 = .ok (.aload_n 0, 1) := by decide +kernel
theorem dX7_fewest_54 : decode cX7_fewest 54 = .ok (.getfield 24, 3) := by decide +kernel
theorem dX7_fewest_57 : decode cX7_fewest 57 = .ok (.iload_n 2, 1) := by decide +kernel
theorem dX7_fewest_58 : decode cX7_fewest 58 = .ok (.invokevirtual 222, 3) := by decide +kernel
theorem dX7_fewest_61 : decode cX7_fewest 61 = .ok (.ireturn, 1) := by decide +kernel
theorem dX7_odds_0 : decode cX7_odds 0 = .ok (.aload_n 0, 1) := by decide +kernel
theorem dX7_odds_1 : decode cX7_odds 1 = .ok (.iload_n 1, 1) := by decide +kernel
theorem dX7_odds_2 : decode cX7_odds 2 = .ok (.invokevirtual 128, 3) := by decide +kernel
theorem dX7_odds_5 : decode cX7_odds 5 = .ok (.ifCond .eq 12, 3) := by decide +kernel
theorem dX7_odds_8 : decode cX7_odds 8 = .ok (.iload_n 2, 1) := by decide +kernel
theorem dX7_odds_9 : decode cX7_odds 9 = .ok (.iconst 0, 1) := by decide +kernel
theorem dX7_odds_10 : decode cX7_odds 10 = .ok (.iconst 1, 1) := by decide +kernel
theorem dX7_odds_11 : decode cX7_odds 11 = .ok (.invokestatic 57, 3) := by decide +kernel
theorem dX7_odds_14 : decode cX7_odds 14 = .ok (.ifCond .ne 9, 3) := by decide +kernel
theorem dX7_odds_17 : decode cX7_odds 17 = .ok (.aload_n 0, 1) := by decide +kernel
theorem dX7_odds_18 : decode cX7_odds 18 = .ok (.iconst 1, 1) := by decide +kernel
theorem dX7_odds_19 : decode cX7_odds 19 = .ok (.invokevirtual 61, 3) := by decide +kernel
theorem dX7_odds_22 : decode cX7_odds 22 = .ok (.ireturn, 1) := by decide +kernel
theorem dX7_odds_23 : decode cX7_odds 23 = .ok (.aload_n 0, 1) := by decide +kernel
theorem dX7_odds_24 : decode cX7_odds 24 = .ok (.getfield 10, 3) := by decide +kernel
theorem dX7_odds_27 : decode cX7_odds 27 = .ok (.getfield 65, 3) := by decide +kernel
theorem dX7_odds_30 : decode cX7_odds 30 = .ok (.ifCond .ne 9, 3) := by decide +kernel
theorem dX7_odds_33 : decode cX7_odds 33 = .ok (.aload_n 0, 1) := by decide +kernel
theorem dX7_odds_34 : decode cX7_odds 34 = .ok (.iconst 3, 1) := by decide +kernel
theorem dX7_odds_35 : decode cX7_odds 35 = .ok (.invokevirtual 61, 3) := by decide +kernel
theorem dX7_odds_38 : decode cX7_odds 38 = .ok (.ireturn, 1) := by decide +kernel
theorem dX7_odds_39 : decode cX7_odds 39 = .ok (.aload_n 0, 1) := by decide +kernel
theorem dX7_odds_40 : decode cX7_odds 40 = .ok (.getfield 24, 3) := by decide +kernel
theorem dX7_odds_43 : decode cX7_odds 43 = .ok (.aload_n 0, 1) := by decide +kernel
theorem dX7_odds_44 : decode cX7_odds 44 = .ok (.getfield 10, 3) := by decide +kernel
theorem dX7_odds_47 : decode cX7_odds 47 = .ok (.getfield 122, 3) := by decide +kernel
theorem dX7_odds_50 : decode cX7_odds 50 = .ok (.iload_n 1, 1) := by decide +kernel
theorem dX7_odds_51 : decode cX7_odds 51 = .ok (.iaload, 1) := by decide +kernel
theorem dX7_odds_52 : decode cX7_odds 52 = .ok (.invokevirtual 225, 3) := by decide +kernel
theorem dX7_odds_55 : decode cX7_odds 55 = .ok (.istore_n 3, 1) := by decide +kernel
theorem dX7_odds_56 : decode cX7_odds 56 = .ok (.aload_n 0, 1) := by decide +kernel
theorem dX7_odds_57 : decode cX7_odds 57 = .ok (.getfield 10, 3) := by decide +kernel
theorem dX7_odds_60 : decode cX7_odds 60 = .ok (.invokevirtual 137, 3) := by decide +kernel
theorem dX7_odds_63 : decode cX7_odds 63 = .ok (.istore 4, 2) := by decide +kernel
theorem dX7_odds_65 : decode cX7_odds 65 = .ok (.iload_n 3, 1) := by decide +kernel
theorem dX7_odds_66 : decode cX7_odds 66 = .ok (.iload 4, 2) := by decide +kernel
theorem dX7_odds_68 : decode cX7_odds 68 = .ok (.invokestatic 228, 3) := by decide +kernel
theorem dX7_odds_71 : decode cX7_odds 71 = .ok (.istore 5, 2) := by decide +kernel
theorem dX7_odds_73 : decode cX7_odds 73 = .ok (.iload_n 2, 1) := by decide +kernel
theorem dX7_odds_74 : decode cX7_odds 74 = .ok (.ifCond .ne 7, 3) := by decide +kernel
theorem dX7_odds_77 : decode cX7_odds 77 = .ok (.iload_n 3, 1) := by decide +kernel
theorem dX7_odds_78 : decode cX7_odds 78 = .ok (.goto 5, 3) := by decide +kernel
theorem dX7_odds_81 : decode cX7_odds 81 = .ok (.iload 4, 2) := by decide +kernel
theorem dX7_odds_83 : decode cX7_odds 83 = .ok (.iconst 1, 1) := by decide +kernel
theorem dX7_odds_84 : decode cX7_odds 84 = .ok (.iload 5, 2) := by decide +kernel
theorem dX7_odds_86 : decode cX7_odds 86 = .ok (.invokestatic 231, 3) := by decide +kernel
theorem dX7_odds_89 : decode cX7_odds 89 = .ok (.idiv, 1) := by decide +kernel
theorem dX7_odds_90 : decode cX7_odds 90 = .ok (.ireturn, 1) := by decide +kernel
theorem dX7_whose_0 : decode cX7_whose 0 = .ok (.iload_n 1, 1) := by decide +kernel
theorem dX7_whose_1 : decode cX7_whose 1 = .ok (.ifCond .lt 12, 3) := by decide +kernel
theorem dX7_whose_4 : decode cX7_whose 4 = .ok (.iload_n 2, 1) := by decide +kernel
theorem dX7_whose_5 : decode cX7_whose 5 = .ok (.iconst 0, 1) := by decide +kernel
theorem dX7_whose_6 : decode cX7_whose 6 = .ok (.iconst 1, 1) := by decide +kernel
theorem dX7_whose_7 : decode cX7_whose 7 = .ok (.invokestatic 57, 3) := by decide +kernel
theorem dX7_whose_10 : decode cX7_whose 10 = .ok (.ifCond .ne 9, 3) := by decide +kernel
theorem dX7_whose_13 : decode cX7_whose 13 = .ok (.aload_n 0, 1) := by decide +kernel
theorem dX7_whose_14 : decode cX7_whose 14 = .ok (.iconst 1, 1) := by decide +kernel
theorem dX7_whose_15 : decode cX7_whose 15 = .ok (.invokevirtual 61, 3) := by decide +kernel
theorem dX7_whose_18 : decode cX7_whose 18 = .ok (.ireturn, 1) := by decide +kernel
theorem dX7_whose_19 : decode cX7_whose 19 = .ok (.iload_n 2, 1) := by decide +kernel
theorem dX7_whose_20 : decode cX7_whose 20 = .ok (.ifCond .ne 12, 3) := by decide +kernel
theorem dX7_whose_23 : decode cX7_whose 23 = .ok (.aload_n 0, 1) := by decide +kernel
theorem dX7_whose_24 : decode cX7_whose 24 = .ok (.getfield 24, 3) := by decide +kernel
theorem dX7_whose_27 : decode cX7_whose 27 = .ok (.iload_n 1, 1) := by decide +kernel
theorem dX7_whose_28 : decode cX7_whose 28 = .ok (.invokevirtual 236, 3) := by decide +kernel
theorem dX7_whose_31 : decode cX7_whose 31 = .ok (.ireturn, 1) := by decide +kernel
theorem dX7_whose_32 : decode cX7_whose 32 = .ok (.aload_n 0, 1) := by decide +kernel
theorem dX7_whose_33 : decode cX7_whose 33 = .ok (.getfield 24, 3) := by decide +kernel
theorem dX7_whose_36 : decode cX7_whose 36 = .ok (.iload_n 1, 1) := by decide +kernel
theorem dX7_whose_37 : decode cX7_whose 37 = .ok (.invokevirtual 239, 3) := by decide +kernel
theorem dX7_whose_40 : decode cX7_whose 40 = .ok (.istore_n 3, 1) := by decide +kernel
theorem dX7_whose_41 : decode cX7_whose 41 = .ok (.iload_n 3, 1) := by decide +kernel
theorem dX7_whose_42 : decode cX7_whose 42 = .ok (.ifCond .ne 11, 3) := by decide +kernel
theorem dX7_whose_45 : decode cX7_whose 45 = .ok (.aload_n 0, 1) := by decide +kernel
theorem dX7_whose_46 : decode cX7_whose 46 = .ok (.iconst 2, 1) := by decide +kernel
theorem dX7_whose_47 : decode cX7_whose 47 = .ok (.invokevirtual 61, 3) := by decide +kernel
theorem dX7_whose_50 : decode cX7_whose 50 = .ok (.goto 4, 3) := by decide +kernel
theorem dX7_whose_53 : decode cX7_whose 53 = .ok (.iload_n 3, 1) := by decide +kernel
theorem dX7_whose_54 : decode cX7_whose 54 = .ok (.ireturn, 1) := by decide +kernel
theorem dX7_fits_0 : decode cX7_fits 0 = .ok (.iload_n 1, 1) := by decide +kernel
theorem dX7_fits_1 : decode cX7_fits 1 = .ok (.invokestatic 242, 3) := by decide +kernel
theorem dX7_fits_4 : decode cX7_fits 4 = .ok (.ifCond .ne 9, 3) := by decide +kernel
theorem dX7_fits_7 : decode cX7_fits 7 = .ok (.aload_n 0, 1) := by decide +kernel
theorem dX7_fits_8 : decode cX7_fits 8 = .ok (.iconst 1, 1) := by decide +kernel
theorem dX7_fits_9 : decode cX7_fits 9 = .ok (.invokevirtual 61, 3) := by decide +kernel
theorem dX7_fits_12 : decode cX7_fits 12 = .ok (.ireturn, 1) := by decide +kernel
theorem dX7_fits_13 : decode cX7_fits 13 = .ok (.aload_n 0, 1) := by decide +kernel
theorem dX7_fits_14 : decode cX7_fits 14 = .ok (.getfield 44, 3) := by decide +kernel
theorem dX7_fits_17 : decode cX7_fits 17 = .ok (.iload_n 1, 1) := by decide +kernel
theorem dX7_fits_18 : decode cX7_fits 18 = .ok (.aaload, 1) := by decide +kernel
theorem dX7_fits_19 : decode cX7_fits 19 = .ok (.invokevirtual 245, 3) := by decide +kernel
theorem dX7_fits_22 : decode cX7_fits 22 = .ok (.ifCond .eq 9, 3) := by decide +kernel
theorem dX7_fits_25 : decode cX7_fits 25 = .ok (.aload_n 0, 1) := by decide +kernel
theorem dX7_fits_26 : decode cX7_fits 26 = .ok (.iconst 2, 1) := by decide +kernel
theorem dX7_fits_27 : decode cX7_fits 27 = .ok (.invokevirtual 61, 3) := by decide +kernel
theorem dX7_fits_30 : decode cX7_fits 30 = .ok (.ireturn, 1) := by decide +kernel
theorem dX7_fits_31 : decode cX7_fits 31 = .ok (.aload_n 0, 1) := by decide +kernel
theorem dX7_fits_32 : decode cX7_fits 32 = .ok (.getfield 24, 3) := by decide +kernel
theorem dX7_fits_35 : decode cX7_fits 35 = .ok (.aload_n 0, 1) := by decide +kernel
theorem dX7_fits_36 : decode cX7_fits 36 = .ok (.getfield 44, 3) := by decide +kernel
theorem dX7_fits_39 : decode cX7_fits 39 = .ok (.iload_n 1, 1) := by decide +kernel
theorem dX7_fits_40 : decode cX7_fits 40 = .ok (.aaload, 1) := by decide +kernel
theorem dX7_fits_41 : decode cX7_fits 41 = .ok (.invokevirtual 248, 3) := by decide +kernel
theorem dX7_fits_44 : decode cX7_fits 44 = .ok (.istore_n 2, 1) := by decide +kernel
theorem dX7_fits_45 : decode cX7_fits 45 = .ok (.iload_n 2, 1) := by decide +kernel
theorem dX7_fits_46 : decode cX7_fits 46 = .ok (.ifCond .ge 11, 3) := by decide +kernel
theorem dX7_fits_49 : decode cX7_fits 49 = .ok (.aload_n 0, 1) := by decide +kernel
theorem dX7_fits_50 : decode cX7_fits 50 = .ok (.iconst 2, 1) := by decide +kernel
theorem dX7_fits_51 : decode cX7_fits 51 = .ok (.invokevirtual 61, 3) := by decide +kernel
theorem dX7_fits_54 : decode cX7_fits 54 = .ok (.goto 4, 3) := by decide +kernel
theorem dX7_fits_57 : decode cX7_fits 57 = .ok (.iload_n 2, 1) := by decide +kernel
theorem dX7_fits_58 : decode cX7_fits 58 = .ok (.ireturn, 1) := by decide +kernel
theorem dX7_voice_0 : decode cX7_voice 0 = .ok (.aload_n 0, 1) := by decide +kernel
theorem dX7_voice_1 : decode cX7_voice 1 = .ok (.iload_n 1, 1) := by decide +kernel
theorem dX7_voice_2 : decode cX7_voice 2 = .ok (.invokevirtual 79, 3) := by decide +kernel
theorem dX7_voice_5 : decode cX7_voice 5 = .ok (.ifCond .eq 12, 3) := by decide +kernel
theorem dX7_voice_8 : decode cX7_voice 8 = .ok (.iload_n 2, 1) := by decide +kernel
theorem dX7_voice_9 : decode cX7_voice 9 = .ok (.iconst 0, 1) := by decide +kernel
theorem dX7_voice_10 : decode cX7_voice 10 = .ok (.iconst 3, 1) := by decide +kernel
theorem dX7_voice_11 : decode cX7_voice 11 = .ok (.invokestatic 57, 3) := by decide +kernel
theorem dX7_voice_14 : decode cX7_voice 14 = .ok (.ifCond .ne 9, 3) := by decide +kernel
theorem dX7_voice_17 : decode cX7_voice 17 = .ok (.aload_n 0, 1) := by decide +kernel
theorem dX7_voice_18 : decode cX7_voice 18 = .ok (.iconst 1, 1) := by decide +kernel
theorem dX7_voice_19 : decode cX7_voice 19 = .ok (.invokevirtual 61, 3) := by decide +kernel
theorem dX7_voice_22 : decode cX7_voice 22 = .ok (.ireturn, 1) := by decide +kernel
theorem dX7_voice_23 : decode cX7_voice 23 = .ok (.aload_n 0, 1) := by decide +kernel
theorem dX7_voice_24 : decode cX7_voice 24 = .ok (.getfield 38, 3) := by decide +kernel
theorem dX7_voice_27 : decode cX7_voice 27 = .ok (.iload_n 1, 1) := by decide +kernel
theorem dX7_voice_28 : decode cX7_voice 28 = .ok (.aload_n 0, 1) := by decide +kernel
theorem dX7_voice_29 : decode cX7_voice 29 = .ok (.getfield 10, 3) := by decide +kernel
theorem dX7_voice_32 : decode cX7_voice 32 = .ok (.getfield 69, 3) := by decide +kernel
theorem dX7_voice_35 : decode cX7_voice 35 = .ok (.iload_n 1, 1) := by decide +kernel
theorem dX7_voice_36 : decode cX7_voice 36 = .ok (.aaload, 1) := by decide +kernel
theorem dX7_voice_37 : decode cX7_voice 37 = .ok (.iload_n 2, 1) := by decide +kernel
theorem dX7_voice_38 : decode cX7_voice 38 = .ok (.iload_n 3, 1) := by decide +kernel
theorem dX7_voice_39 : decode cX7_voice 39 = .ok (.invokevirtual 252, 3) := by decide +kernel
theorem dX7_voice_42 : decode cX7_voice 42 = .ok (.istore 4, 2) := by decide +kernel
theorem dX7_voice_44 : decode cX7_voice 44 = .ok (.aload_n 0, 1) := by decide +kernel
theorem dX7_voice_45 : decode cX7_voice 45 = .ok (.getfield 38, 3) := by decide +kernel
theorem dX7_voice_48 : decode cX7_voice 48 = .ok (.getfield 256, 3) := by decide +kernel
theorem dX7_voice_51 : decode cX7_voice 51 = .ok (.ifCond .eq 12, 3) := by decide +kernel
theorem dX7_voice_54 : decode cX7_voice 54 = .ok (.aload_n 0, 1) := by decide +kernel
theorem dX7_voice_55 : decode cX7_voice 55 = .ok (.bipush 6, 2) := by decide +kernel
theorem dX7_voice_57 : decode cX7_voice 57 = .ok (.invokevirtual 61, 3) := by decide +kernel
theorem dX7_voice_60 : decode cX7_voice 60 = .ok (.goto 5, 3) := by decide +kernel
theorem dX7_voice_63 : decode cX7_voice 63 = .ok (.iload 4, 2) := by decide +kernel
theorem dX7_voice_65 : decode cX7_voice 65 = .ok (.ireturn, 1) := by decide +kernel
theorem dX7_body_0 : decode cX7_body 0 = .ok (.iload_n 1, 1) := by decide +kernel
theorem dX7_body_1 : decode cX7_body 1 = .ok (.iconst 0, 1) := by decide +kernel
theorem dX7_body_2 : decode cX7_body 2 = .ok (.aload_n 0, 1) := by decide +kernel
theorem dX7_body_3 : decode cX7_body 3 = .ok (.getfield 38, 3) := by decide +kernel
theorem dX7_body_6 : decode cX7_body 6 = .ok (.getfield 260, 3) := by decide +kernel
theorem dX7_body_9 : decode cX7_body 9 = .ok (.iconst 1, 1) := by decide +kernel
theorem dX7_body_10 : decode cX7_body 10 = .ok (.isub, 1) := by decide +kernel
theorem dX7_body_11 : decode cX7_body 11 = .ok (.invokestatic 57, 3) := by decide +kernel
theorem dX7_body_14 : decode cX7_body 14 = .ok (.ifCond .eq 15, 3) := by decide +kernel
theorem dX7_body_17 : decode cX7_body 17 = .ok (.aload_n 0, 1) := by decide +kernel
theorem dX7_body_18 : decode cX7_body 18 = .ok (.getfield 38, 3) := by decide +kernel
theorem dX7_body_21 : decode cX7_body 21 = .ok (.getfield 263, 3) := by decide +kernel
theorem dX7_body_24 : decode cX7_body 24 = .ok (.iload_n 1, 1) := by decide +kernel
theorem dX7_body_25 : decode cX7_body 25 = .ok (.iaload, 1) := by decide +kernel
theorem dX7_body_26 : decode cX7_body 26 = .ok (.goto 8, 3) := by decide +kernel
theorem dX7_body_29 : decode cX7_body 29 = .ok (.aload_n 0, 1) := by decide +kernel
theorem dX7_body_30 : decode cX7_body 30 = .ok (.iconst 2, 1) := by decide +kernel
theorem dX7_body_31 : decode cX7_body 31 = .ok (.invokevirtual 61, 3) := by decide +kernel
theorem dX7_body_34 : decode cX7_body 34 = .ok (.ireturn, 1) := by decide +kernel
theorem dX7_sheet_0 : decode cX7_sheet 0 = .ok (.iload_n 1, 1) := by decide +kernel
theorem dX7_sheet_1 : decode cX7_sheet 1 = .ok (.invokestatic 242, 3) := by decide +kernel
theorem dX7_sheet_4 : decode cX7_sheet 4 = .ok (.ifCond .eq 25, 3) := by decide +kernel
theorem dX7_sheet_7 : decode cX7_sheet 7 = .ok (.iload_n 2, 1) := by decide +kernel
theorem dX7_sheet_8 : decode cX7_sheet 8 = .ok (.ifCond .eq 27, 3) := by decide +kernel
theorem dX7_sheet_11 : decode cX7_sheet 11 = .ok (.iload_n 2, 1) := by decide +kernel
theorem dX7_sheet_12 : decode cX7_sheet 12 = .ok (.bipush 8, 2) := by decide +kernel
theorem dX7_sheet_14 : decode cX7_sheet 14 = .ok (.if_icmp .eq 21, 3) := by decide +kernel
theorem dX7_sheet_17 : decode cX7_sheet 17 = .ok (.iload_n 2, 1) := by decide +kernel
theorem dX7_sheet_18 : decode cX7_sheet 18 = .ok (.bipush 16, 2) := by decide +kernel
theorem dX7_sheet_20 : decode cX7_sheet 20 = .ok (.if_icmp .eq 15, 3) := by decide +kernel
theorem dX7_sheet_23 : decode cX7_sheet 23 = .ok (.iload_n 2, 1) := by decide +kernel
theorem dX7_sheet_24 : decode cX7_sheet 24 = .ok (.bipush 32, 2) := by decide +kernel
theorem dX7_sheet_26 : decode cX7_sheet 26 = .ok (.if_icmp .eq 9, 3) := by decide +kernel
theorem dX7_sheet_29 : decode cX7_sheet 29 = .ok (.aload_n 0, 1) := by decide +kernel
theorem dX7_sheet_30 : decode cX7_sheet 30 = .ok (.iconst 1, 1) := by decide +kernel
theorem dX7_sheet_31 : decode cX7_sheet 31 = .ok (.invokevirtual 61, 3) := by decide +kernel
theorem dX7_sheet_34 : decode cX7_sheet 34 = .ok (.ireturn, 1) := by decide +kernel
theorem dX7_sheet_35 : decode cX7_sheet 35 = .ok (.iload_n 2, 1) := by decide +kernel
theorem dX7_sheet_36 : decode cX7_sheet 36 = .ok (.ifCond .ne 16, 3) := by decide +kernel
theorem dX7_sheet_39 : decode cX7_sheet 39 = .ok (.aload_n 0, 1) := by decide +kernel
theorem dX7_sheet_40 : decode cX7_sheet 40 = .ok (.getfield 44, 3) := by decide +kernel
theorem dX7_sheet_43 : decode cX7_sheet 43 = .ok (.iload_n 1, 1) := by decide +kernel
theorem dX7_sheet_44 : decode cX7_sheet 44 = .ok (.aaload, 1) := by decide +kernel
theorem dX7_sheet_45 : decode cX7_sheet 45 = .ok (.iconst 0, 1) := by decide +kernel
theorem dX7_sheet_46 : decode cX7_sheet 46 = .ok (.iconst 0, 1) := by decide +kernel
theorem dX7_sheet_47 : decode cX7_sheet 47 = .ok (.invokevirtual 266, 3) := by decide +kernel
theorem dX7_sheet_50 : decode cX7_sheet 50 = .ok (.iconst 1, 1) := by decide +kernel
theorem dX7_sheet_51 : decode cX7_sheet 51 = .ok (.ireturn, 1) := by decide +kernel
theorem dX7_sheet_52 : decode cX7_sheet 52 = .ok (.iload_n 3, 1) := by decide +kernel
theorem dX7_sheet_53 : decode cX7_sheet 53 = .ok (.ifCond .ge 9, 3) := by decide +kernel
theorem dX7_sheet_56 : decode cX7_sheet 56 = .ok (.aload_n 0, 1) := by decide +kernel
theorem dX7_sheet_57 : decode cX7_sheet 57 = .ok (.iconst 3, 1) := by decide +kernel
theorem dX7_sheet_58 : decode cX7_sheet 58 = .ok (.invokevirtual 61, 3) := by decide +kernel
theorem dX7_sheet_61 : decode cX7_sheet 61 = .ok (.ireturn, 1) := by decide +kernel
theorem dX7_sheet_62 : decode cX7_sheet 62 = .ok (.iload_n 3, 1) := by decide +kernel
theorem dX7_sheet_63 : decode cX7_sheet 63 = .ok (.bipush 24, 2) := by decide +kernel
theorem dX7_sheet_65 : decode cX7_sheet 65 = .ok (.if_icmp .le 9, 3) := by decide +kernel
theorem dX7_sheet_68 : decode cX7_sheet 68 = .ok (.aload_n 0, 1) := by decide +kernel
theorem dX7_sheet_69 : decode cX7_sheet 69 = .ok (.iconst 1, 1) := by decide +kernel
theorem dX7_sheet_70 : decode cX7_sheet 70 = .ok (.invokevirtual 61, 3) := by decide +kernel
theorem dX7_sheet_73 : decode cX7_sheet 73 = .ok (.ireturn, 1) := by decide +kernel
theorem dX7_sheet_74 : decode cX7_sheet 74 = .ok (.aload_n 0, 1) := by decide +kernel
theorem dX7_sheet_75 : decode cX7_sheet 75 = .ok (.getfield 44, 3) := by decide +kernel
theorem dX7_sheet_78 : decode cX7_sheet 78 = .ok (.iload_n 1, 1) := by decide +kernel
theorem dX7_sheet_79 : decode cX7_sheet 79 = .ok (.aaload, 1) := by decide +kernel
theorem dX7_sheet_80 : decode cX7_sheet 80 = .ok (.iload_n 2, 1) := by decide +kernel
theorem dX7_sheet_81 : decode cX7_sheet 81 = .ok (.iload_n 3, 1) := by decide +kernel
theorem dX7_sheet_82 : decode cX7_sheet 82 = .ok (.invokevirtual 266, 3) := by decide +kernel
theorem dX7_sheet_85 : decode cX7_sheet 85 = .ok (.iconst 1, 1) := by decide +kernel
theorem dX7_sheet_86 : decode cX7_sheet 86 = .ok (.ireturn, 1) := by decide +kernel
theorem dX7_put_0 : decode cX7_put 0 = .ok (.iload_n 1, 1) := by decide +kernel
theorem dX7_put_1 : decode cX7_put 1 = .ok (.invokestatic 242, 3) := by decide +kernel
theorem dX7_put_4 : decode cX7_put 4 = .ok (.ifCond .ne 9, 3) := by decide +kernel
theorem dX7_put_7 : decode cX7_put 7 = .ok (.aload_n 0, 1) := by decide +kernel
theorem dX7_put_8 : decode cX7_put 8 = .ok (.iconst 1, 1) := by decide +kernel
theorem dX7_put_9 : decode cX7_put 9 = .ok (.invokevirtual 61, 3) := by decide +kernel
theorem dX7_put_12 : decode cX7_put 12 = .ok (.ireturn, 1) := by decide +kernel
theorem dX7_put_13 : decode cX7_put 13 = .ok (.aload_n 0, 1) := by decide +kernel
theorem dX7_put_14 : decode cX7_put 14 = .ok (.getfield 44, 3) := by decide +kernel
theorem dX7_put_17 : decode cX7_put 17 = .ok (.iload_n 1, 1) := by decide +kernel
theorem dX7_put_18 : decode cX7_put 18 = .ok (.aaload, 1) := by decide +kernel
theorem dX7_put_19 : decode cX7_put 19 = .ok (.invokevirtual 245, 3) := by decide +kernel
theorem dX7_put_22 : decode cX7_put 22 = .ok (.ifCond .eq 9, 3) := by decide +kernel
theorem dX7_put_25 : decode cX7_put 25 = .ok (.aload_n 0, 1) := by decide +kernel
theorem dX7_put_26 : decode cX7_put 26 = .ok (.iconst 2, 1) := by decide +kernel
theorem dX7_put_27 : decode cX7_put 27 = .ok (.invokevirtual 61, 3) := by decide +kernel
theorem dX7_put_30 : decode cX7_put 30 = .ok (.ireturn, 1) := by decide +kernel
theorem dX7_put_31 : decode cX7_put 31 = .ok (.iload_n 2, 1) := by decide +kernel
theorem dX7_put_32 : decode cX7_put 32 = .ok (.iconst 0, 1) := by decide +kernel
theorem dX7_put_33 : decode cX7_put 33 = .ok (.aload_n 0, 1) := by decide +kernel
theorem dX7_put_34 : decode cX7_put 34 = .ok (.getfield 44, 3) := by decide +kernel
theorem dX7_put_37 : decode cX7_put 37 = .ok (.iload_n 1, 1) := by decide +kernel
theorem dX7_put_38 : decode cX7_put 38 = .ok (.aaload, 1) := by decide +kernel
theorem dX7_put_39 : decode cX7_put 39 = .ok (.getfield 269, 3) := by decide +kernel
theorem dX7_put_42 : decode cX7_put 42 = .ok (.iconst 1, 1) := by decide +kernel
theorem dX7_put_43 : decode cX7_put 43 = .ok (.isub, 1) := by decide +kernel
theorem dX7_put_44 : decode cX7_put 44 = .ok (.invokestatic 57, 3) := by decide +kernel
theorem dX7_put_47 : decode cX7_put 47 = .ok (.ifCond .ne 9, 3) := by decide +kernel
theorem dX7_put_50 : decode cX7_put 50 = .ok (.aload_n 0, 1) := by decide +kernel
theorem dX7_put_51 : decode cX7_put 51 = .ok (.iconst 1, 1) := by decide +kernel
theorem dX7_put_52 : decode cX7_put 52 = .ok (.invokevirtual 61, 3) := by decide +kernel
theorem dX7_put_55 : decode cX7_put 55 = .ok (.ireturn, 1) := by decide +kernel
theorem dX7_put_56 : decode cX7_put 56 = .ok (.aload_n 0, 1) := by decide +kernel
theorem dX7_put_57 : decode cX7_put 57 = .ok (.getfield 44, 3) := by decide +kernel
theorem dX7_put_60 : decode cX7_put 60 = .ok (.iload_n 1, 1) := by decide +kernel
theorem dX7_put_61 : decode cX7_put 61 = .ok (.aaload, 1) := by decide +kernel
theorem dX7_put_62 : decode cX7_put 62 = .ok (.iload_n 2, 1) := by decide +kernel
theorem dX7_put_63 : decode cX7_put 63 = .ok (.iload_n 3, 1) := by decide +kernel
theorem dX7_put_64 : decode cX7_put 64 = .ok (.invokevirtual 272, 3) := by decide +kernel
theorem dX7_put_67 : decode cX7_put 67 = .ok (.iconst 1, 1) := by decide +kernel
theorem dX7_put_68 : decode cX7_put 68 = .ok (.ireturn, 1) := by decide +kernel
theorem dX7_move_0 : decode cX7_move 0 = .ok (.iload_n 1, 1) := by decide +kernel
theorem dX7_move_1 : decode cX7_move 1 = .ok (.invokestatic 242, 3) := by decide +kernel
theorem dX7_move_4 : decode cX7_move 4 = .ok (.ifCond .eq 10, 3) := by decide +kernel
theorem dX7_move_7 : decode cX7_move 7 = .ok (.iload_n 3, 1) := by decide +kernel
theorem dX7_move_8 : decode cX7_move 8 = .ok (.invokestatic 242, 3) := by decide +kernel
theorem dX7_move_11 : decode cX7_move 11 = .ok (.ifCond .ne 9, 3) := by decide +kernel
theorem dX7_move_14 : decode cX7_move 14 = .ok (.aload_n 0, 1) := by decide +kernel
theorem dX7_move_15 : decode cX7_move 15 = .ok (.iconst 1, 1) := by decide +kernel
theorem dX7_move_16 : decode cX7_move 16 = .ok (.invokevirtual 61, 3) := by decide +kernel
theorem dX7_move_19 : decode cX7_move 19 = .ok (.ireturn, 1) := by decide +kernel
theorem dX7_move_20 : decode cX7_move 20 = .ok (.aload_n 0, 1) := by decide +kernel
theorem dX7_move_21 : decode cX7_move 21 = .ok (.getfield 44, 3) := by decide +kernel
theorem dX7_move_24 : decode cX7_move 24 = .ok (.iload_n 1, 1) := by decide +kernel
theorem dX7_move_25 : decode cX7_move 25 = .ok (.aaload, 1) := by decide +kernel
theorem dX7_move_26 : decode cX7_move 26 = .ok (.astore 6, 2) := by decide +kernel
theorem dX7_move_28 : decode cX7_move 28 = .ok (.aload_n 0, 1) := by decide +kernel
theorem dX7_move_29 : decode cX7_move 29 = .ok (.getfield 44, 3) := by decide +kernel
theorem dX7_move_32 : decode cX7_move 32 = .ok (.iload_n 3, 1) := by decide +kernel
theorem dX7_move_33 : decode cX7_move 33 = .ok (.aaload, 1) := by decide +kernel
theorem dX7_move_34 : decode cX7_move 34 = .ok (.astore 7, 2) := by decide +kernel
theorem dX7_move_36 : decode cX7_move 36 = .ok (.aload 6, 2) := by decide +kernel
theorem dX7_move_38 : decode cX7_move 38 = .ok (.invokevirtual 245, 3) := by decide +kernel
theorem dX7_move_41 : decode cX7_move 41 = .ok (.ifCond .ne 11, 3) := by decide +kernel
theorem dX7_move_44 : decode cX7_move 44 = .ok (.aload 7, 2) := by decide +kernel
theorem dX7_move_46 : decode cX7_move 46 = .ok (.invokevirtual 245, 3) := by decide +kernel
theorem dX7_move_49 : decode cX7_move 49 = .ok (.ifCond .eq 9, 3) := by decide +kernel
theorem dX7_move_52 : decode cX7_move 52 = .ok (.aload_n 0, 1) := by decide +kernel
theorem dX7_move_53 : decode cX7_move 53 = .ok (.iconst 2, 1) := by decide +kernel
theorem dX7_move_54 : decode cX7_move 54 = .ok (.invokevirtual 61, 3) := by decide +kernel
theorem dX7_move_57 : decode cX7_move 57 = .ok (.ireturn, 1) := by decide +kernel
theorem dX7_move_58 : decode cX7_move 58 = .ok (.aload 6, 2) := by decide +kernel
theorem dX7_move_60 : decode cX7_move 60 = .ok (.getfield 275, 3) := by decide +kernel
theorem dX7_move_63 : decode cX7_move 63 = .ok (.aload 7, 2) := by decide +kernel
theorem dX7_move_65 : decode cX7_move 65 = .ok (.getfield 275, 3) := by decide +kernel
theorem dX7_move_68 : decode cX7_move 68 = .ok (.if_icmp .eq 9, 3) := by decide +kernel
theorem dX7_move_71 : decode cX7_move 71 = .ok (.aload_n 0, 1) := by decide +kernel
theorem dX7_move_72 : decode cX7_move 72 = .ok (.iconst 5, 1) := by decide +kernel
theorem dX7_move_73 : decode cX7_move 73 = .ok (.invokevirtual 61, 3) := by decide +kernel
theorem dX7_move_76 : decode cX7_move 76 = .ok (.ireturn, 1) := by decide +kernel
theorem dX7_move_77 : decode cX7_move 77 = .ok (.aload 6, 2) := by decide +kernel
theorem dX7_move_79 : decode cX7_move 79 = .ok (.iload_n 2, 1) := by decide +kernel
theorem dX7_move_80 : decode cX7_move 80 = .ok (.iload 5, 2) := by decide +kernel
theorem dX7_move_82 : decode cX7_move 82 = .ok (.invokevirtual 278, 3) := by decide +kernel
theorem dX7_move_85 : decode cX7_move 85 = .ok (.ifCond .eq 15, 3) := by decide +kernel
theorem dX7_move_88 : decode cX7_move 88 = .ok (.aload 7, 2) := by decide +kernel
theorem dX7_move_90 : decode cX7_move 90 = .ok (.iload 4, 2) := by decide +kernel
theorem dX7_move_92 : decode cX7_move 92 = .ok (.iload 5, 2) := by decide +kernel
theorem dX7_move_94 : decode cX7_move 94 = .ok (.invokevirtual 278, 3) := by decide +kernel
theorem dX7_move_97 : decode cX7_move 97 = .ok (.ifCond .ne 9, 3) := by decide +kernel
theorem dX7_move_100 : decode cX7_move 100 = .ok (.aload_n 0, 1) := by decide +kernel
theorem dX7_move_101 : decode cX7_move 101 = .ok (.iconst 1, 1) := by decide +kernel
theorem dX7_move_102 : decode cX7_move 102 = .ok (.invokevirtual 61, 3) := by decide +kernel
theorem dX7_move_105 : decode cX7_move 105 = .ok (.ireturn, 1) := by decide +kernel
theorem dX7_move_106 : decode cX7_move 106 = .ok (.aload 6, 2) := by decide +kernel
theorem dX7_move_108 : decode cX7_move 108 = .ok (.getfield 281, 3) := by decide +kernel
theorem dX7_move_111 : decode cX7_move 111 = .ok (.iload_n 2, 1) := by decide +kernel
theorem dX7_move_112 : decode cX7_move 112 = .ok (.aload 7, 2) := by decide +kernel
theorem dX7_move_114 : decode cX7_move 114 = .ok (.getfield 281, 3) := by decide +kernel
theorem dX7_move_117 : decode cX7_move 117 = .ok (.iload 4, 2) := by decide +kernel
theorem dX7_move_119 : decode cX7_move 119 = .ok (.iload 5, 2) := by decide +kernel
theorem dX7_move_121 : decode cX7_move 121 = .ok (.invokestatic 284, 3) := by decide +kernel
theorem dX7_move_124 : decode cX7_move 124 = .ok (.iload 5, 2) := by decide +kernel
theorem dX7_move_126 : decode cX7_move 126 = .ok (.ireturn, 1) := by decide +kernel
theorem dX7_parches_0 : decode cX7_parches 0 = .ok (.iload_n 1, 1) := by decide +kernel
theorem dX7_parches_1 : decode cX7_parches 1 = .ok (.invokestatic 242, 3) := by decide +kernel
theorem dX7_parches_4 : decode cX7_parches 4 = .ok (.ifCond .ne 9, 3) := by decide +kernel
theorem dX7_parches_7 : decode cX7_parches 7 = .ok (.aload_n 0, 1) := by decide +kernel
theorem dX7_parches_8 : decode cX7_parches 8 = .ok (.iconst 1, 1) := by decide +kernel
theorem dX7_parches_9 : decode cX7_parches 9 = .ok (.invokevirtual 61, 3) := by decide +kernel
theorem dX7_parches_12 : decode cX7_parches 12 = .ok (.ireturn, 1) := by decide +kernel
theorem dX7_parches_13 : decode cX7_parches 13 = .ok (.aload_n 0, 1) := by decide +kernel
theorem dX7_parches_14 : decode cX7_parches 14 = .ok (.getfield 44, 3) := by decide +kernel
theorem dX7_parches_17 : decode cX7_parches 17 = .ok (.iload_n 1, 1) := by decide +kernel
theorem dX7_parches_18 : decode cX7_parches 18 = .ok (.aaload, 1) := by decide +kernel
theorem dX7_parches_19 : decode cX7_parches 19 = .ok (.astore_n 2, 1) := by decide +kernel
theorem dX7_parches_20 : decode cX7_parches 20 = .ok (.aload_n 2, 1) := by decide +kernel
theorem dX7_parches_21 : decode cX7_parches 21 = .ok (.invokevirtual 245, 3) := by decide +kernel
theorem dX7_parches_24 : decode cX7_parches 24 = .ok (.ifCond .eq 9, 3) := by decide +kernel
theorem dX7_parches_27 : decode cX7_parches 27 = .ok (.aload_n 0, 1) := by decide +kernel
theorem dX7_parches_28 : decode cX7_parches 28 = .ok (.iconst 2, 1) := by decide +kernel
theorem dX7_parches_29 : decode cX7_parches 29 = .ok (.invokevirtual 61, 3) := by decide +kernel
theorem dX7_parches_32 : decode cX7_parches 32 = .ok (.ireturn, 1) := by decide +kernel
theorem dX7_parches_33 : decode cX7_parches 33 = .ok (.aload_n 2, 1) := by decide +kernel
theorem dX7_parches_34 : decode cX7_parches 34 = .ok (.getfield 269, 3) := by decide +kernel
theorem dX7_parches_37 : decode cX7_parches 37 = .ok (.aload_n 0, 1) := by decide +kernel
theorem dX7_parches_38 : decode cX7_parches 38 = .ok (.getfield 10, 3) := by decide +kernel
theorem dX7_parches_41 : decode cX7_parches 41 = .ok (.getfield 65, 3) := by decide +kernel
theorem dX7_parches_44 : decode cX7_parches 44 = .ok (.invokestatic 290, 3) := by decide +kernel
theorem dX7_parches_47 : decode cX7_parches 47 = .ok (.istore_n 3, 1) := by decide +kernel
theorem dX7_parches_48 : decode cX7_parches 48 = .ok (.iconst 0, 1) := by decide +kernel
theorem dX7_parches_49 : decode cX7_parches 49 = .ok (.istore 4, 2) := by decide +kernel
theorem dX7_parches_51 : decode cX7_parches 51 = .ok (.iload 4, 2) := by decide +kernel
theorem dX7_parches_53 : decode cX7_parches 53 = .ok (.iload_n 3, 1) := by decide +kernel
theorem dX7_parches_54 : decode cX7_parches 54 = .ok (.if_icmp .ge 45, 3) := by decide +kernel
theorem dX7_parches_57 : decode cX7_parches 57 = .ok (.aload_n 2, 1) := by decide +kernel
theorem dX7_parches_58 : decode cX7_parches 58 = .ok (.getfield 281, 3) := by decide +kernel
theorem dX7_parches_61 : decode cX7_parches 61 = .ok (.iload 4, 2) := by decide +kernel
theorem dX7_parches_63 : decode cX7_parches 63 = .ok (.iaload, 1) := by decide +kernel
theorem dX7_parches_64 : decode cX7_parches 64 = .ok (.iconst 0, 1) := by decide +kernel
theorem dX7_parches_65 : decode cX7_parches 65 = .ok (.bipush 99, 2) := by decide +kernel
theorem dX7_parches_67 : decode cX7_parches 67 = .ok (.invokestatic 57, 3) := by decide +kernel
theorem dX7_parches_70 : decode cX7_parches 70 = .ok (.ifCond .eq 29, 3) := by decide +kernel
theorem dX7_parches_73 : decode cX7_parches 73 = .ok (.aload_n 0, 1) := by decide +kernel
theorem dX7_parches_74 : decode cX7_parches 74 = .ok (.getfield 10, 3) := by decide +kernel
theorem dX7_parches_77 : decode cX7_parches 77 = .ok (.getfield 69, 3) := by decide +kernel
theorem dX7_parches_80 : decode cX7_parches 80 = .ok (.iload 4, 2) := by decide +kernel
theorem dX7_parches_82 : decode cX7_parches 82 = .ok (.aaload, 1) := by decide +kernel
theorem dX7_parches_83 : decode cX7_parches 83 = .ok (.aload_n 2, 1) := by decide +kernel
theorem dX7_parches_84 : decode cX7_parches 84 = .ok (.getfield 281, 3) := by decide +kernel
theorem dX7_parches_87 : decode cX7_parches 87 = .ok (.iload 4, 2) := by decide +kernel
theorem dX7_parches_89 : decode cX7_parches 89 = .ok (.iaload, 1) := by decide +kernel
theorem dX7_parches_90 : decode cX7_parches 90 = .ok (.putfield 94, 3) := by decide +kernel
theorem dX7_parches_93 : decode cX7_parches 93 = .ok (.iinc 4 1, 3) := by decide +kernel
theorem dX7_parches_96 : decode cX7_parches 96 = .ok (.goto (-45), 3) := by decide +kernel
theorem dX7_parches_99 : decode cX7_parches 99 = .ok (.iload 4, 2) := by decide +kernel
theorem dX7_parches_101 : decode cX7_parches 101 = .ok (.ireturn, 1) := by decide +kernel
theorem dX7_judge_0 : decode cX7_judge 0 = .ok (.iload_n 1, 1) := by decide +kernel
theorem dX7_judge_1 : decode cX7_judge 1 = .ok (.invokestatic 242, 3) := by decide +kernel
theorem dX7_judge_4 : decode cX7_judge 4 = .ok (.ifCond .ne 9, 3) := by decide +kernel
theorem dX7_judge_7 : decode cX7_judge 7 = .ok (.aload_n 0, 1) := by decide +kernel
theorem dX7_judge_8 : decode cX7_judge 8 = .ok (.iconst 1, 1) := by decide +kernel
theorem dX7_judge_9 : decode cX7_judge 9 = .ok (.invokevirtual 61, 3) := by decide +kernel
theorem dX7_judge_12 : decode cX7_judge 12 = .ok (.ireturn, 1) := by decide +kernel
theorem dX7_judge_13 : decode cX7_judge 13 = .ok (.aload_n 0, 1) := by decide +kernel
theorem dX7_judge_14 : decode cX7_judge 14 = .ok (.getfield 44, 3) := by decide +kernel
theorem dX7_judge_17 : decode cX7_judge 17 = .ok (.iload_n 1, 1) := by decide +kernel
theorem dX7_judge_18 : decode cX7_judge 18 = .ok (.aaload, 1) := by decide +kernel
theorem dX7_judge_19 : decode cX7_judge 19 = .ok (.astore_n 2, 1) := by decide +kernel
theorem dX7_judge_20 : decode cX7_judge 20 = .ok (.aload_n 2, 1) := by decide +kernel
theorem dX7_judge_21 : decode cX7_judge 21 = .ok (.invokevirtual 245, 3) := by decide +kernel
theorem dX7_judge_24 : decode cX7_judge 24 = .ok (.ifCond .eq 9, 3) := by decide +kernel
theorem dX7_judge_27 : decode cX7_judge 27 = .ok (.aload_n 0, 1) := by decide +kernel
theorem dX7_judge_28 : decode cX7_judge 28 = .ok (.iconst 2, 1) := by decide +kernel
theorem dX7_judge_29 : decode cX7_judge 29 = .ok (.invokevirtual 61, 3) := by decide +kernel
theorem dX7_judge_32 : decode cX7_judge 32 = .ok (.ireturn, 1) := by decide +kernel
theorem dX7_judge_33 : decode cX7_judge 33 = .ok (.aload_n 2, 1) := by decide +kernel
theorem dX7_judge_34 : decode cX7_judge 34 = .ok (.getfield 269, 3) := by decide +kernel
theorem dX7_judge_37 : decode cX7_judge 37 = .ok (.aload_n 0, 1) := by decide +kernel
theorem dX7_judge_38 : decode cX7_judge 38 = .ok (.getfield 10, 3) := by decide +kernel
theorem dX7_judge_41 : decode cX7_judge 41 = .ok (.getfield 65, 3) := by decide +kernel
theorem dX7_judge_44 : decode cX7_judge 44 = .ok (.invokestatic 290, 3) := by decide +kernel
theorem dX7_judge_47 : decode cX7_judge 47 = .ok (.istore_n 3, 1) := by decide +kernel
theorem dX7_judge_48 : decode cX7_judge 48 = .ok (.iconst 0, 1) := by decide +kernel
theorem dX7_judge_49 : decode cX7_judge 49 = .ok (.istore 4, 2) := by decide +kernel
theorem dX7_judge_51 : decode cX7_judge 51 = .ok (.iload 4, 2) := by decide +kernel
theorem dX7_judge_53 : decode cX7_judge 53 = .ok (.iload_n 3, 1) := by decide +kernel
theorem dX7_judge_54 : decode cX7_judge 54 = .ok (.if_icmp .ge 36, 3) := by decide +kernel
theorem dX7_judge_57 : decode cX7_judge 57 = .ok (.aload_n 2, 1) := by decide +kernel
theorem dX7_judge_58 : decode cX7_judge 58 = .ok (.getfield 281, 3) := by decide +kernel
theorem dX7_judge_61 : decode cX7_judge 61 = .ok (.iload 4, 2) := by decide +kernel
theorem dX7_judge_63 : decode cX7_judge 63 = .ok (.iaload, 1) := by decide +kernel
theorem dX7_judge_64 : decode cX7_judge 64 = .ok (.aload_n 0, 1) := by decide +kernel
theorem dX7_judge_65 : decode cX7_judge 65 = .ok (.getfield 10, 3) := by decide +kernel
theorem dX7_judge_68 : decode cX7_judge 68 = .ok (.aload_n 0, 1) := by decide +kernel
theorem dX7_judge_69 : decode cX7_judge 69 = .ok (.getfield 10, 3) := by decide +kernel
theorem dX7_judge_72 : decode cX7_judge 72 = .ok (.getfield 69, 3) := by decide +kernel
theorem dX7_judge_75 : decode cX7_judge 75 = .ok (.iload 4, 2) := by decide +kernel
theorem dX7_judge_77 : decode cX7_judge 77 = .ok (.aaload, 1) := by decide +kernel
theorem dX7_judge_78 : decode cX7_judge 78 = .ok (.invokevirtual 107, 3) := by decide +kernel
theorem dX7_judge_81 : decode cX7_judge 81 = .ok (.if_icmp .ne 9, 3) := by decide +kernel
theorem dX7_judge_84 : decode cX7_judge 84 = .ok (.iinc 4 1, 3) := by decide +kernel
theorem dX7_judge_87 : decode cX7_judge 87 = .ok (.goto (-36), 3) := by decide +kernel
theorem dX7_judge_90 : decode cX7_judge 90 = .ok (.iload 4, 2) := by decide +kernel
theorem dX7_judge_92 : decode cX7_judge 92 = .ok (.ireturn, 1) := by decide +kernel
theorem dX7_image_0 : decode cX7_image 0 = .ok (.aload_n 0, 1) := by decide +kernel
theorem dX7_image_1 : decode cX7_image 1 = .ok (.getfield 16, 3) := by decide +kernel
theorem dX7_image_4 : decode cX7_image 4 = .ok (.aload_n 0, 1) := by decide +kernel
theorem dX7_image_5 : decode cX7_image 5 = .ok (.getfield 10, 3) := by decide +kernel
theorem dX7_image_8 : decode cX7_image 8 = .ok (.invokevirtual 293, 3) := by decide +kernel
theorem dX7_image_11 : decode cX7_image 11 = .ok (.aload_n 0, 1) := by decide +kernel
theorem dX7_image_12 : decode cX7_image 12 = .ok (.dup, 1) := by decide +kernel
theorem dX7_image_13 : decode cX7_image 13 = .ok (.getfield 295, 3) := by decide +kernel
theorem dX7_image_16 : decode cX7_image 16 = .ok (.iconst 1, 1) := by decide +kernel
theorem dX7_image_17 : decode cX7_image 17 = .ok (.iadd, 1) := by decide +kernel
theorem dX7_image_18 : decode cX7_image 18 = .ok (.putfield 295, 3) := by decide +kernel
theorem dX7_image_21 : decode cX7_image 21 = .ok (.aload_n 0, 1) := by decide +kernel
theorem dX7_image_22 : decode cX7_image 22 = .ok (.getfield 295, 3) := by decide +kernel
theorem dX7_image_25 : decode cX7_image 25 = .ok (.ireturn, 1) := by decide +kernel
theorem dX7_restore_0 : decode cX7_restore 0 = .ok (.aload_n 0, 1) := by decide +kernel
theorem dX7_restore_1 : decode cX7_restore 1 = .ok (.getfield 295, 3) := by decide +kernel
theorem dX7_restore_4 : decode cX7_restore 4 = .ok (.ifCond .ne 9, 3) := by decide +kernel
theorem dX7_restore_7 : decode cX7_restore 7 = .ok (.aload_n 0, 1) := by decide +kernel
theorem dX7_restore_8 : decode cX7_restore 8 = .ok (.iconst 2, 1) := by decide +kernel
theorem dX7_restore_9 : decode cX7_restore 9 = .ok (.invokevirtual 61, 3) := by decide +kernel
theorem dX7_restore_12 : decode cX7_restore 12 = .ok (.ireturn, 1) := by decide +kernel
theorem dX7_restore_13 : decode cX7_restore 13 = .ok (.aload_n 0, 1) := by decide +kernel
theorem dX7_restore_14 : decode cX7_restore 14 = .ok (.getfield 10, 3) := by decide +kernel
theorem dX7_restore_17 : decode cX7_restore 17 = .ok (.aload_n 0, 1) := by decide +kernel
theorem dX7_restore_18 : decode cX7_restore 18 = .ok (.getfield 16, 3) := by decide +kernel
theorem dX7_restore_21 : decode cX7_restore 21 = .ok (.invokevirtual 293, 3) := by decide +kernel
theorem dX7_restore_24 : decode cX7_restore 24 = .ok (.aload_n 0, 1) := by decide +kernel
theorem dX7_restore_25 : decode cX7_restore 25 = .ok (.getfield 10, 3) := by decide +kernel
theorem dX7_restore_28 : decode cX7_restore 28 = .ok (.getfield 100, 3) := by decide +kernel
theorem dX7_restore_31 : decode cX7_restore 31 = .ok (.ireturn, 1) := by decide +kernel
theorem dX7_tell_0 : decode cX7_tell 0 = .ok (.aload_n 0, 1) := by decide +kernel
theorem dX7_tell_1 : decode cX7_tell 1 = .ok (.getfield 10, 3) := by decide +kernel
theorem dX7_tell_4 : decode cX7_tell 4 = .ok (.getfield 298, 3) := by decide +kernel
theorem dX7_tell_7 : decode cX7_tell 7 = .ok (.bipush 24, 2) := by decide +kernel
theorem dX7_tell_9 : decode cX7_tell 9 = .ok (.if_icmp .lt 9, 3) := by decide +kernel
theorem dX7_tell_12 : decode cX7_tell 12 = .ok (.aload_n 0, 1) := by decide +kernel
theorem dX7_tell_13 : decode cX7_tell 13 = .ok (.iconst 4, 1) := by decide +kernel
theorem dX7_tell_14 : decode cX7_tell 14 = .ok (.invokevirtual 61, 3) := by decide +kernel
theorem dX7_tell_17 : decode cX7_tell 17 = .ok (.ireturn, 1) := by decide +kernel
theorem dX7_tell_18 : decode cX7_tell 18 = .ok (.aload_n 0, 1) := by decide +kernel
theorem dX7_tell_19 : decode cX7_tell 19 = .ok (.getfield 10, 3) := by decide +kernel
theorem dX7_tell_22 : decode cX7_tell 22 = .ok (.getfield 301, 3) := by decide +kernel
theorem dX7_tell_25 : decode cX7_tell 25 = .ok (.aload_n 0, 1) := by decide +kernel
theorem dX7_tell_26 : decode cX7_tell 26 = .ok (.getfield 10, 3) := by decide +kernel
theorem dX7_tell_29 : decode cX7_tell 29 = .ok (.getfield 298, 3) := by decide +kernel
theorem dX7_tell_32 : decode cX7_tell 32 = .ok (.iload_n 1, 1) := by decide +kernel
theorem dX7_tell_33 : decode cX7_tell 33 = .ok (.iastore, 1) := by decide +kernel
theorem dX7_tell_34 : decode cX7_tell 34 = .ok (.aload_n 0, 1) := by decide +kernel
theorem dX7_tell_35 : decode cX7_tell 35 = .ok (.getfield 10, 3) := by decide +kernel
theorem dX7_tell_38 : decode cX7_tell 38 = .ok (.dup, 1) := by decide +kernel
theorem dX7_tell_39 : decode cX7_tell 39 = .ok (.getfield 298, 3) := by decide +kernel
theorem dX7_tell_42 : decode cX7_tell 42 = .ok (.iconst 1, 1) := by decide +kernel
theorem dX7_tell_43 : decode cX7_tell 43 = .ok (.iadd, 1) := by decide +kernel
theorem dX7_tell_44 : decode cX7_tell 44 = .ok (.putfield 298, 3) := by decide +kernel
theorem dX7_tell_47 : decode cX7_tell 47 = .ok (.aload_n 0, 1) := by decide +kernel
theorem dX7_tell_48 : decode cX7_tell 48 = .ok (.getfield 10, 3) := by decide +kernel
theorem dX7_tell_51 : decode cX7_tell 51 = .ok (.getfield 298, 3) := by decide +kernel
theorem dX7_tell_54 : decode cX7_tell 54 = .ok (.ireturn, 1) := by decide +kernel
theorem dX7_check_0 : decode cX7_check 0 = .ok (.aload_n 0, 1) := by decide +kernel
theorem dX7_check_1 : decode cX7_check 1 = .ok (.getfield 10, 3) := by decide +kernel
theorem dX7_check_4 : decode cX7_check 4 = .ok (.getfield 298, 3) := by decide +kernel
theorem dX7_check_7 : decode cX7_check 7 = .ok (.istore_n 1, 1) := by decide +kernel
theorem dX7_check_8 : decode cX7_check 8 = .ok (.aload_n 0, 1) := by decide +kernel
theorem dX7_check_9 : decode cX7_check 9 = .ok (.getfield 10, 3) := by decide +kernel
theorem dX7_check_12 : decode cX7_check 12 = .ok (.iconst 0, 1) := by decide +kernel
theorem dX7_check_13 : decode cX7_check 13 = .ok (.putfield 298, 3) := by decide +kernel
theorem dX7_check_16 : decode cX7_check 16 = .ok (.iconst 0, 1) := by decide +kernel
theorem dX7_check_17 : decode cX7_check 17 = .ok (.istore_n 2, 1) := by decide +kernel
theorem dX7_check_18 : decode cX7_check 18 = .ok (.iload_n 2, 1) := by decide +kernel
theorem dX7_check_19 : decode cX7_check 19 = .ok (.iload_n 1, 1) := by decide +kernel
theorem dX7_check_20 : decode cX7_check 20 = .ok (.if_icmp .ge 45, 3) := by decide +kernel
theorem dX7_check_23 : decode cX7_check 23 = .ok (.iload_n 2, 1) := by decide +kernel
theorem dX7_check_24 : decode cX7_check 24 = .ok (.aload_n 0, 1) := by decide +kernel
theorem dX7_check_25 : decode cX7_check 25 = .ok (.getfield 10, 3) := by decide +kernel
theorem dX7_check_28 : decode cX7_check 28 = .ok (.getfield 119, 3) := by decide +kernel
theorem dX7_check_31 : decode cX7_check 31 = .ok (.if_icmp .ge 24, 3) := by decide +kernel
theorem dX7_check_34 : decode cX7_check 34 = .ok (.aload_n 0, 1) := by decide +kernel
theorem dX7_check_35 : decode cX7_check 35 = .ok (.getfield 10, 3) := by decide +kernel
theorem dX7_check_38 : decode cX7_check 38 = .ok (.getfield 301, 3) := by decide +kernel
theorem dX7_check_41 : decode cX7_check 41 = .ok (.iload_n 2, 1) := by decide +kernel
theorem dX7_check_42 : decode cX7_check 42 = .ok (.iaload, 1) := by decide +kernel
theorem dX7_check_43 : decode cX7_check 43 = .ok (.aload_n 0, 1) := by decide +kernel
theorem dX7_check_44 : decode cX7_check 44 = .ok (.getfield 10, 3) := by decide +kernel
theorem dX7_check_47 : decode cX7_check 47 = .ok (.getfield 125, 3) := by decide +kernel
theorem dX7_check_50 : decode cX7_check 50 = .ok (.iload_n 2, 1) := by decide +kernel
theorem dX7_check_51 : decode cX7_check 51 = .ok (.iaload, 1) := by decide +kernel
theorem dX7_check_52 : decode cX7_check 52 = .ok (.if_icmp .eq 7, 3) := by decide +kernel
theorem dX7_check_55 : decode cX7_check 55 = .ok (.iconst 1, 1) := by decide +kernel
theorem dX7_check_56 : decode cX7_check 56 = .ok (.iload_n 2, 1) := by decide +kernel
theorem dX7_check_57 : decode cX7_check 57 = .ok (.iadd, 1) := by decide +kernel
theorem dX7_check_58 : decode cX7_check 58 = .ok (.ireturn, 1) := by decide +kernel
theorem dX7_check_59 : decode cX7_check 59 = .ok (.iinc 2 1, 3) := by decide +kernel
theorem dX7_check_62 : decode cX7_check 62 = .ok (.goto (-44), 3) := by decide +kernel
theorem dX7_check_65 : decode cX7_check 65 = .ok (.iconst 0, 1) := by decide +kernel
theorem dX7_check_66 : decode cX7_check 66 = .ok (.ireturn, 1) := by decide +kernel
theorem dX7_count_0 : decode cX7_count 0 = .ok (.iload_n 1, 1) := by decide +kernel
theorem dX7_count_1 : decode cX7_count 1 = .ok (.tableswitch 111 0 7 #[47, 55, 63, 71, 79, 87, 95, 103], 47) := by decide +kernel
theorem dX7_count_48 : decode cX7_count 48 = .ok (.aload_n 0, 1) := by decide +kernel
theorem dX7_count_49 : decode cX7_count 49 = .ok (.getfield 10, 3) := by decide +kernel
theorem dX7_count_52 : decode cX7_count 52 = .ok (.getfield 65, 3) := by decide +kernel
theorem dX7_count_55 : decode cX7_count 55 = .ok (.ireturn, 1) := by decide +kernel
theorem dX7_count_56 : decode cX7_count 56 = .ok (.aload_n 0, 1) := by decide +kernel
theorem dX7_count_57 : decode cX7_count 57 = .ok (.getfield 10, 3) := by decide +kernel
theorem dX7_count_60 : decode cX7_count 60 = .ok (.getfield 119, 3) := by decide +kernel
theorem dX7_count_63 : decode cX7_count 63 = .ok (.ireturn, 1) := by decide +kernel
theorem dX7_count_64 : decode cX7_count 64 = .ok (.aload_n 0, 1) := by decide +kernel
theorem dX7_count_65 : decode cX7_count 65 = .ok (.getfield 10, 3) := by decide +kernel
theorem dX7_count_68 : decode cX7_count 68 = .ok (.getfield 100, 3) := by decide +kernel
theorem dX7_count_71 : decode cX7_count 71 = .ok (.ireturn, 1) := by decide +kernel
theorem dX7_count_72 : decode cX7_count 72 = .ok (.aload_n 0, 1) := by decide +kernel
theorem dX7_count_73 : decode cX7_count 73 = .ok (.getfield 10, 3) := by decide +kernel
theorem dX7_count_76 : decode cX7_count 76 = .ok (.getfield 194, 3) := by decide +kernel
theorem dX7_count_79 : decode cX7_count 79 = .ok (.ireturn, 1) := by decide +kernel
theorem dX7_count_80 : decode cX7_count 80 = .ok (.aload_n 0, 1) := by decide +kernel
theorem dX7_count_81 : decode cX7_count 81 = .ok (.getfield 10, 3) := by decide +kernel
theorem dX7_count_84 : decode cX7_count 84 = .ok (.getfield 148, 3) := by decide +kernel
theorem dX7_count_87 : decode cX7_count 87 = .ok (.ireturn, 1) := by decide +kernel
theorem dX7_count_88 : decode cX7_count 88 = .ok (.aload_n 0, 1) := by decide +kernel
theorem dX7_count_89 : decode cX7_count 89 = .ok (.getfield 10, 3) := by decide +kernel
theorem dX7_count_92 : decode cX7_count 92 = .ok (.getfield 298, 3) := by decide +kernel
theorem dX7_count_95 : decode cX7_count 95 = .ok (.ireturn, 1) := by decide +kernel
theorem dX7_count_96 : decode cX7_count 96 = .ok (.aload_n 0, 1) := by decide +kernel
theorem dX7_count_97 : decode cX7_count 97 = .ok (.getfield 38, 3) := by decide +kernel
theorem dX7_count_100 : decode cX7_count 100 = .ok (.getfield 260, 3) := by decide +kernel
theorem dX7_count_103 : decode cX7_count 103 = .ok (.ireturn, 1) := by decide +kernel
theorem dX7_count_104 : decode cX7_count 104 = .ok (.aload_n 0, 1) := by decide +kernel
theorem dX7_count_105 : decode cX7_count 105 = .ok (.getfield 10, 3) := by decide +kernel
theorem dX7_count_108 : decode cX7_count 108 = .ok (.getfield 200, 3) := by decide +kernel
theorem dX7_count_111 : decode cX7_count 111 = .ok (.ireturn, 1) := by decide +kernel
theorem dX7_count_112 : decode cX7_count 112 = .ok (.aload_n 0, 1) := by decide +kernel
theorem dX7_count_113 : decode cX7_count 113 = .ok (.iconst 1, 1) := by decide +kernel
theorem dX7_count_114 : decode cX7_count 114 = .ok (.invokevirtual 61, 3) := by decide +kernel
theorem dX7_count_117 : decode cX7_count 117 = .ok (.ireturn, 1) := by decide +kernel
theorem dX7_told_0 : decode cX7_told 0 = .ok (.iload_n 1, 1) := by decide +kernel
theorem dX7_told_1 : decode cX7_told 1 = .ok (.iconst 1, 1) := by decide +kernel
theorem dX7_told_2 : decode cX7_told 2 = .ok (.bipush 6, 2) := by decide +kernel
theorem dX7_told_4 : decode cX7_told 4 = .ok (.invokestatic 57, 3) := by decide +kernel
theorem dX7_told_7 : decode cX7_told 7 = .ok (.ifCond .eq 12, 3) := by decide +kernel
theorem dX7_told_10 : decode cX7_told 10 = .ok (.aload_n 0, 1) := by decide +kernel
theorem dX7_told_11 : decode cX7_told 11 = .ok (.getfield 48, 3) := by decide +kernel
theorem dX7_told_14 : decode cX7_told 14 = .ok (.iload_n 1, 1) := by decide +kernel
theorem dX7_told_15 : decode cX7_told 15 = .ok (.iaload, 1) := by decide +kernel
theorem dX7_told_16 : decode cX7_told 16 = .ok (.goto 8, 3) := by decide +kernel
theorem dX7_told_19 : decode cX7_told 19 = .ok (.aload_n 0, 1) := by decide +kernel
theorem dX7_told_20 : decode cX7_told 20 = .ok (.iconst 1, 1) := by decide +kernel
theorem dX7_told_21 : decode cX7_told 21 = .ok (.invokevirtual 61, 3) := by decide +kernel
theorem dX7_told_24 : decode cX7_told 24 = .ok (.ireturn, 1) := by decide +kernel
theorem dX7_refuse_0 : decode cX7_refuse 0 = .ok (.iload_n 1, 1) := by decide +kernel
theorem dX7_refuse_1 : decode cX7_refuse 1 = .ok (.iconst 1, 1) := by decide +kernel
theorem dX7_refuse_2 : decode cX7_refuse 2 = .ok (.bipush 6, 2) := by decide +kernel
theorem dX7_refuse_4 : decode cX7_refuse 4 = .ok (.invokestatic 57, 3) := by decide +kernel
theorem dX7_refuse_7 : decode cX7_refuse 7 = .ok (.ifCond .eq 13, 3) := by decide +kernel
theorem dX7_refuse_10 : decode cX7_refuse 10 = .ok (.aload_n 0, 1) := by decide +kernel
theorem dX7_refuse_11 : decode cX7_refuse 11 = .ok (.getfield 48, 3) := by decide +kernel
theorem dX7_refuse_14 : decode cX7_refuse 14 = .ok (.iload_n 1, 1) := by decide +kernel
theorem dX7_refuse_15 : decode cX7_refuse 15 = .ok (.dup2, 1) := by decide +kernel
theorem dX7_refuse_16 : decode cX7_refuse 16 = .ok (.iaload, 1) := by decide +kernel
theorem dX7_refuse_17 : decode cX7_refuse 17 = .ok (.iconst 1, 1) := by decide +kernel
theorem dX7_refuse_18 : decode cX7_refuse 18 = .ok (.iadd, 1) := by decide +kernel
theorem dX7_refuse_19 : decode cX7_refuse 19 = .ok (.iastore, 1) := by decide +kernel
theorem dX7_refuse_20 : decode cX7_refuse 20 = .ok (.ldc_w 304, 3) := by decide +kernel
theorem dX7_refuse_23 : decode cX7_refuse 23 = .ok (.iload_n 1, 1) := by decide +kernel
theorem dX7_refuse_24 : decode cX7_refuse 24 = .ok (.isub, 1) := by decide +kernel
theorem dX7_refuse_25 : decode cX7_refuse 25 = .ok (.ireturn, 1) := by decide +kernel
theorem dX7_isFarm_0 : decode cX7_isFarm 0 = .ok (.iload_n 1, 1) := by decide +kernel
theorem dX7_isFarm_1 : decode cX7_isFarm 1 = .ok (.iconst 0, 1) := by decide +kernel
theorem dX7_isFarm_2 : decode cX7_isFarm 2 = .ok (.aload_n 0, 1) := by decide +kernel
theorem dX7_isFarm_3 : decode cX7_isFarm 3 = .ok (.getfield 10, 3) := by decide +kernel
theorem dX7_isFarm_6 : decode cX7_isFarm 6 = .ok (.getfield 65, 3) := by decide +kernel
theorem dX7_isFarm_9 : decode cX7_isFarm 9 = .ok (.iconst 1, 1) := by decide +kernel
theorem dX7_isFarm_10 : decode cX7_isFarm 10 = .ok (.isub, 1) := by decide +kernel
theorem dX7_isFarm_11 : decode cX7_isFarm 11 = .ok (.invokestatic 57, 3) := by decide +kernel
theorem dX7_isFarm_14 : decode cX7_isFarm 14 = .ok (.ireturn, 1) := by decide +kernel
theorem dX7_isCarrier_0 : decode cX7_isCarrier 0 = .ok (.iload_n 1, 1) := by decide +kernel
theorem dX7_isCarrier_1 : decode cX7_isCarrier 1 = .ok (.iconst 0, 1) := by decide +kernel
theorem dX7_isCarrier_2 : decode cX7_isCarrier 2 = .ok (.aload_n 0, 1) := by decide +kernel
theorem dX7_isCarrier_3 : decode cX7_isCarrier 3 = .ok (.getfield 10, 3) := by decide +kernel
theorem dX7_isCarrier_6 : decode cX7_isCarrier 6 = .ok (.getfield 119, 3) := by decide +kernel
theorem dX7_isCarrier_9 : decode cX7_isCarrier 9 = .ok (.iconst 1, 1) := by decide +kernel
theorem dX7_isCarrier_10 : decode cX7_isCarrier 10 = .ok (.isub, 1) := by decide +kernel
theorem dX7_isCarrier_11 : decode cX7_isCarrier 11 = .ok (.invokestatic 57, 3) := by decide +kernel
theorem dX7_isCarrier_14 : decode cX7_isCarrier 14 = .ok (.ireturn, 1) := by decide +kernel
theorem dX7_isPool_0 : decode cX7_isPool 0 = .ok (.iload_n 0, 1) := by decide +kernel
theorem dX7_isPool_1 : decode cX7_isPool 1 = .ok (.iconst 0, 1) := by decide +kernel
theorem dX7_isPool_2 : decode cX7_isPool 2 = .ok (.iconst 2, 1) := by decide +kernel
theorem dX7_isPool_3 : decode cX7_isPool 3 = .ok (.invokestatic 57, 3) := by decide +kernel
theorem dX7_isPool_6 : decode cX7_isPool 6 = .ok (.ireturn, 1) := by decide +kernel
theorem dX7_isSheet_0 : decode cX7_isSheet 0 = .ok (.iload_n 0, 1) := by decide +kernel
theorem dX7_isSheet_1 : decode cX7_isSheet 1 = .ok (.iconst 0, 1) := by decide +kernel
theorem dX7_isSheet_2 : decode cX7_isSheet 2 = .ok (.iconst 3, 1) := by decide +kernel
theorem dX7_isSheet_3 : decode cX7_isSheet 3 = .ok (.invokestatic 57, 3) := by decide +kernel
theorem dX7_isSheet_6 : decode cX7_isSheet 6 = .ok (.ireturn, 1) := by decide +kernel
theorem dX7_isUse_0 : decode cX7_isUse 0 = .ok (.iload_n 0, 1) := by decide +kernel
theorem dX7_isUse_1 : decode cX7_isUse 1 = .ok (.ifCond .eq 8, 3) := by decide +kernel
theorem dX7_isUse_4 : decode cX7_isUse 4 = .ok (.iload_n 0, 1) := by decide +kernel
theorem dX7_isUse_5 : decode cX7_isUse 5 = .ok (.iconst 1, 1) := by decide +kernel
theorem dX7_isUse_6 : decode cX7_isUse 6 = .ok (.if_icmp .ne 7, 3) := by decide +kernel
theorem dX7_isUse_9 : decode cX7_isUse 9 = .ok (.iconst 1, 1) := by decide +kernel
theorem dX7_isUse_10 : decode cX7_isUse 10 = .ok (.goto 4, 3) := by decide +kernel
theorem dX7_isUse_13 : decode cX7_isUse 13 = .ok (.iconst 0, 1) := by decide +kernel
theorem dX7_isUse_14 : decode cX7_isUse 14 = .ok (.ireturn, 1) := by decide +kernel
theorem dX7_isKindAndM_0 : decode cX7_isKindAndM 0 = .ok (.iload_n 0, 1) := by decide +kernel
theorem dX7_isKindAndM_1 : decode cX7_isKindAndM 1 = .ok (.iconst 0, 1) := by decide +kernel
theorem dX7_isKindAndM_2 : decode cX7_isKindAndM 2 = .ok (.bipush 69, 2) := by decide +kernel
theorem dX7_isKindAndM_4 : decode cX7_isKindAndM 4 = .ok (.invokestatic 57, 3) := by decide +kernel
theorem dX7_isKindAndM_7 : decode cX7_isKindAndM 7 = .ok (.ireturn, 1) := by decide +kernel
theorem dX7_within_0 : decode cX7_within 0 = .ok (.iload_n 0, 1) := by decide +kernel
theorem dX7_within_1 : decode cX7_within 1 = .ok (.iload_n 1, 1) := by decide +kernel
theorem dX7_within_2 : decode cX7_within 2 = .ok (.if_icmp .lt 12, 3) := by decide +kernel
theorem dX7_within_5 : decode cX7_within 5 = .ok (.iload_n 0, 1) := by decide +kernel
theorem dX7_within_6 : decode cX7_within 6 = .ok (.iload_n 2, 1) := by decide +kernel
theorem dX7_within_7 : decode cX7_within 7 = .ok (.if_icmp .gt 7, 3) := by decide +kernel
theorem dX7_within_10 : decode cX7_within 10 = .ok (.iconst 1, 1) := by decide +kernel
theorem dX7_within_11 : decode cX7_within 11 = .ok (.goto 4, 3) := by decide +kernel
theorem dX7_within_14 : decode cX7_within 14 = .ok (.iconst 0, 1) := by decide +kernel
theorem dX7_within_15 : decode cX7_within 15 = .ok (.ireturn, 1) := by decide +kernel
theorem dX7_kindAbove_0 : decode cX7_kindAbove 0 = .ok (.iload_n 0, 1) := by decide +kernel
theorem dX7_kindAbove_1 : decode cX7_kindAbove 1 = .ok (.iconst 0, 1) := by decide +kernel
theorem dX7_kindAbove_2 : decode cX7_kindAbove 2 = .ok (.bipush 6, 2) := by decide +kernel
theorem dX7_kindAbove_4 : decode cX7_kindAbove 4 = .ok (.invokestatic 57, 3) := by decide +kernel
theorem dX7_kindAbove_7 : decode cX7_kindAbove 7 = .ok (.ifCond .eq 11, 3) := by decide +kernel
theorem dX7_kindAbove_10 : decode cX7_kindAbove 10 = .ok (.getstatic 305, 3) := by decide +kernel
theorem dX7_kindAbove_13 : decode cX7_kindAbove 13 = .ok (.iload_n 0, 1) := by decide +kernel
theorem dX7_kindAbove_14 : decode cX7_kindAbove 14 = .ok (.iaload, 1) := by decide +kernel
theorem dX7_kindAbove_15 : decode cX7_kindAbove 15 = .ok (.goto 4, 3) := by decide +kernel
theorem dX7_kindAbove_18 : decode cX7_kindAbove 18 = .ok (.iconst (-1), 1) := by decide +kernel
theorem dX7_kindAbove_19 : decode cX7_kindAbove 19 = .ok (.ireturn, 1) := by decide +kernel
theorem dX7_isOrUnder_0 : decode cX7_isOrUnder 0 = .ok (.iload_n 0, 1) := by decide +kernel
theorem dX7_isOrUnder_1 : decode cX7_isOrUnder 1 = .ok (.istore_n 2, 1) := by decide +kernel
theorem dX7_isOrUnder_2 : decode cX7_isOrUnder 2 = .ok (.iconst 0, 1) := by decide +kernel
theorem dX7_isOrUnder_3 : decode cX7_isOrUnder 3 = .ok (.istore_n 3, 1) := by decide +kernel
theorem dX7_isOrUnder_4 : decode cX7_isOrUnder 4 = .ok (.iload_n 3, 1) := by decide +kernel
theorem dX7_isOrUnder_5 : decode cX7_isOrUnder 5 = .ok (.bipush 7, 2) := by decide +kernel
theorem dX7_isOrUnder_7 : decode cX7_isOrUnder 7 = .ok (.if_icmp .ge 25, 3) := by decide +kernel
theorem dX7_isOrUnder_10 : decode cX7_isOrUnder 10 = .ok (.iload_n 2, 1) := by decide +kernel
theorem dX7_isOrUnder_11 : decode cX7_isOrUnder 11 = .ok (.ifCond .lt 21, 3) := by decide +kernel
theorem dX7_isOrUnder_14 : decode cX7_isOrUnder 14 = .ok (.iload_n 2, 1) := by decide +kernel
theorem dX7_isOrUnder_15 : decode cX7_isOrUnder 15 = .ok (.iload_n 1, 1) := by decide +kernel
theorem dX7_isOrUnder_16 : decode cX7_isOrUnder 16 = .ok (.if_icmp .ne 5, 3) := by decide +kernel
theorem dX7_isOrUnder_19 : decode cX7_isOrUnder 19 = .ok (.iconst 1, 1) := by decide +kernel
theorem dX7_isOrUnder_20 : decode cX7_isOrUnder 20 = .ok (.ireturn, 1) := by decide +kernel
theorem dX7_isOrUnder_21 : decode cX7_isOrUnder 21 = .ok (.iload_n 2, 1) := by decide +kernel
theorem dX7_isOrUnder_22 : decode cX7_isOrUnder 22 = .ok (.invokestatic 308, 3) := by decide +kernel
theorem dX7_isOrUnder_25 : decode cX7_isOrUnder 25 = .ok (.istore_n 2, 1) := by decide +kernel
theorem dX7_isOrUnder_26 : decode cX7_isOrUnder 26 = .ok (.iinc 3 1, 3) := by decide +kernel
theorem dX7_isOrUnder_29 : decode cX7_isOrUnder 29 = .ok (.goto (-25), 3) := by decide +kernel
theorem dX7_isOrUnder_32 : decode cX7_isOrUnder 32 = .ok (.iconst 0, 1) := by decide +kernel
theorem dX7_isOrUnder_33 : decode cX7_isOrUnder 33 = .ok (.ireturn, 1) := by decide +kernel
theorem dX7_namesOf_0 : decode cX7_namesOf 0 = .ok (.iload_n 0, 1) := by decide +kernel
theorem dX7_namesOf_1 : decode cX7_namesOf 1 = .ok (.ifCond .ne 9, 3) := by decide +kernel
theorem dX7_namesOf_4 : decode cX7_namesOf 4 = .ok (.ldc_w 311, 3) := by decide +kernel
theorem dX7_namesOf_7 : decode cX7_namesOf 7 = .ok (.goto 6, 3) := by decide +kernel
theorem dX7_namesOf_10 : decode cX7_namesOf 10 = .ok (.ldc_w 313, 3) := by decide +kernel
theorem dX7_namesOf_13 : decode cX7_namesOf 13 = .ok (.areturn, 1) := by decide +kernel
theorem dX7_commonDivisor_0 : decode cX7_commonDivisor 0 = .ok (.iload_n 0, 1) := by decide +kernel
theorem dX7_commonDivisor_1 : decode cX7_commonDivisor 1 = .ok (.istore_n 2, 1) := by decide +kernel
theorem dX7_commonDivisor_2 : decode cX7_commonDivisor 2 = .ok (.iload_n 1, 1) := by decide +kernel
theorem dX7_commonDivisor_3 : decode cX7_commonDivisor 3 = .ok (.istore_n 3, 1) := by decide +kernel
theorem dX7_commonDivisor_4 : decode cX7_commonDivisor 4 = .ok (.iconst 0, 1) := by decide +kernel
theorem dX7_commonDivisor_5 : decode cX7_commonDivisor 5 = .ok (.istore 4, 2) := by decide +kernel
theorem dX7_commonDivisor_7 : decode cX7_commonDivisor 7 = .ok (.iload 4, 2) := by decide +kernel
theorem dX7_commonDivisor_9 : decode cX7_commonDivisor 9 = .ok (.bipush 100, 2) := by decide +kernel
theorem dX7_commonDivisor_11 : decode cX7_commonDivisor 11 = .ok (.if_icmp .ge 23, 3) := by decide +kernel
theorem dX7_commonDivisor_14 : decode cX7_commonDivisor 14 = .ok (.iload_n 3, 1) := by decide +kernel
theorem dX7_commonDivisor_15 : decode cX7_commonDivisor 15 = .ok (.ifCond .le 19, 3) := by decide +kernel
theorem dX7_commonDivisor_18 : decode cX7_commonDivisor 18 = .ok (.iload_n 2, 1) := by decide +kernel
theorem dX7_commonDivisor_19 : decode cX7_commonDivisor 19 = .ok (.iload_n 3, 1) := by decide +kernel
theorem dX7_commonDivisor_20 : decode cX7_commonDivisor 20 = .ok (.irem, 1) := by decide +kernel
theorem dX7_commonDivisor_21 : decode cX7_commonDivisor 21 = .ok (.istore 5, 2) := by decide +kernel
theorem dX7_commonDivisor_23 : decode cX7_commonDivisor 23 = .ok (.iload_n 3, 1) := by decide +kernel
theorem dX7_commonDivisor_24 : decode cX7_commonDivisor 24 = .ok (.istore_n 2, 1) := by decide +kernel
theorem dX7_commonDivisor_25 : decode cX7_commonDivisor 25 = .ok (.iload 5, 2) := by decide +kernel
theorem dX7_commonDivisor_27 : decode cX7_commonDivisor 27 = .ok (.istore_n 3, 1) := by decide +kernel
theorem dX7_commonDivisor_28 : decode cX7_commonDivisor 28 = .ok (.iinc 4 1, 3) := by decide +kernel
theorem dX7_commonDivisor_31 : decode cX7_commonDivisor 31 = .ok (.goto (-24), 3) := by decide +kernel
theorem dX7_commonDivisor_34 : decode cX7_commonDivisor 34 = .ok (.iload_n 2, 1) := by decide +kernel
theorem dX7_commonDivisor_35 : decode cX7_commonDivisor 35 = .ok (.ireturn, 1) := by decide +kernel
