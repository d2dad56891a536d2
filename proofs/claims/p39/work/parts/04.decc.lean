theorem dX0_init_0 : decode cX0_init 0 = .ok (.aload_n 0, 1) := by decide +kernel
theorem dX0_init_1 : decode cX0_init 1 = .ok (.invokespecial 3, 3) := by decide +kernel
theorem dX0_init_4 : decode cX0_init 4 = .ok (.aload_n 0, 1) := by decide +kernel
theorem dX0_init_5 : decode cX0_init 5 = .ok (.bipush 6, 2) := by decide +kernel
theorem dX0_init_7 : decode cX0_init 7 = .ok (.anewarray 9, 3) := by decide +kernel
theorem dX0_init_10 : decode cX0_init 10 = .ok (.putfield 11, 3) := by decide +kernel
theorem dX0_init_13 : decode cX0_init 13 = .ok (.aload_n 0, 1) := by decide +kernel
theorem dX0_init_14 : decode cX0_init 14 = .ok (.bipush 20, 2) := by decide +kernel
theorem dX0_init_16 : decode cX0_init 16 = .ok (.anewarray 17, 3) := by decide +kernel
theorem dX0_init_19 : decode cX0_init 19 = .ok (.putfield 19, 3) := by decide +kernel
theorem dX0_init_22 : decode cX0_init 22 = .ok (.aload_n 0, 1) := by decide +kernel
theorem dX0_init_23 : decode cX0_init 23 = .ok (.iconst 5, 1) := by decide +kernel
theorem dX0_init_24 : decode cX0_init 24 = .ok (.newarray .int, 2) := by decide +kernel
theorem dX0_init_26 : decode cX0_init 26 = .ok (.putfield 23, 3) := by decide +kernel
theorem dX0_init_29 : decode cX0_init 29 = .ok (.iconst 0, 1) := by decide +kernel
theorem dX0_init_30 : decode cX0_init 30 = .ok (.istore_n 1, 1) := by decide +kernel
theorem dX0_init_31 : decode cX0_init 31 = .ok (.iload_n 1, 1) := by decide +kernel
theorem dX0_init_32 : decode cX0_init 32 = .ok (.bipush 6, 2) := by decide +kernel
theorem dX0_init_34 : decode cX0_init 34 = .ok (.if_icmp .ge 22, 3) := by decide +kernel
theorem dX0_init_37 : decode cX0_init 37 = .ok (.aload_n 0, 1) := by decide +kernel
theorem dX0_init_38 : decode cX0_init 38 = .ok (.getfield 11, 3) := by decide +kernel
theorem dX0_init_41 : decode cX0_init 41 = .ok (.iload_n 1, 1) := by decide +kernel
theorem dX0_init_42 : decode cX0_init 42 = .ok (.new 9, 3) := by decide +kernel
theorem dX0_init_45 : decode cX0_init 45 = .ok (.dup, 1) := by decide +kernel
theorem dX0_init_46 : decode cX0_init 46 = .ok (.invokespecial 27, 3) := by decide +kernel
theorem dX0_init_49 : decode cX0_init 49 = .ok (.aastore, 1) := by decide +kernel
theorem dX0_init_50 : decode cX0_init 50 = .ok (.iinc 1 1, 3) := by decide +kernel
theorem dX0_init_53 : decode cX0_init 53 = .ok (.goto (-22), 3) := by decide +kernel
theorem dX0_init_56 : decode cX0_init 56 = .ok (.iconst 0, 1) := by decide +kernel
theorem dX0_init_57 : decode cX0_init 57 = .ok (.istore_n 1, 1) := by decide +kernel
theorem dX0_init_58 : decode cX0_init 58 = .ok (.iload_n 1, 1) := by decide +kernel
theorem dX0_init_59 : decode cX0_init 59 = .ok (.bipush 20, 2) := by decide +kernel
theorem dX0_init_61 : decode cX0_init 61 = .ok (.if_icmp .ge 23, 3) := by decide +kernel
theorem dX0_init_64 : decode cX0_init 64 = .ok (.aload_n 0, 1) := by decide +kernel
theorem dX0_init_65 : decode cX0_init 65 = .ok (.getfield 19, 3) := by decide +kernel
theorem dX0_init_68 : decode cX0_init 68 = .ok (.iload_n 1, 1) := by decide +kernel
theorem dX0_init_69 : decode cX0_init 69 = .ok (.new 17, 3) := by decide +kernel
theorem dX0_init_72 : decode cX0_init 72 = .ok (.dup, 1) := by decide +kernel
theorem dX0_init_73 : decode cX0_init 73 = .ok (.iload_n 1, 1) := by decide +kernel
theorem dX0_init_74 : decode cX0_init 74 = .ok (.invokespecial 28, 3) := by decide +kernel
theorem dX0_init_77 : decode cX0_init 77 = .ok (.aastore, 1) := by decide +kernel
theorem dX0_init_78 : decode cX0_init 78 = .ok (.iinc 1 1, 3) := by decide +kernel
theorem dX0_init_81 : decode cX0_init 81 = .ok (.goto (-23), 3) := by decide +kernel
theorem dX0_init_84 : decode cX0_init 84 = .ok (.iconst 0, 1) := by decide +kernel
theorem dX0_init_85 : decode cX0_init 85 = .ok (.istore_n 1, 1) := by decide +kernel
theorem dX0_init_86 : decode cX0_init 86 = .ok (.iload_n 1, 1) := by decide +kernel
theorem dX0_init_87 : decode cX0_init 87 = .ok (.iconst 5, 1) := by decide +kernel
theorem dX0_init_88 : decode cX0_init 88 = .ok (.if_icmp .ge 16, 3) := by decide +kernel
theorem dX0_init_91 : decode cX0_init 91 = .ok (.aload_n 0, 1) := by decide +kernel
theorem dX0_init_92 : decode cX0_init 92 = .ok (.getfield 23, 3) := by decide +kernel
theorem dX0_init_95 : decode cX0_init 95 = .ok (.iload_n 1, 1) := by decide +kernel
theorem dX0_init_96 : decode cX0_init 96 = .ok (.iconst 1, 1) := by decide +kernel
theorem dX0_init_97 : decode cX0_init 97 = .ok (.iastore, 1) := by decide +kernel
theorem dX0_init_98 : decode cX0_init 98 = .ok (.iinc 1 1, 3) := by decide +kernel
theorem dX0_init_101 : decode cX0_init 101 = .ok (.goto (-15), 3) := by decide +kernel
theorem dX0_init_104 : decode cX0_init 104 = .ok (.return_, 1) := by decide +kernel
theorem dX0_open_0 : decode cX0_open 0 = .ok (.aload_n 0, 1) := by decide +kernel
theorem dX0_open_1 : decode cX0_open 1 = .ok (.iconst 0, 1) := by decide +kernel
theorem dX0_open_2 : decode cX0_open 2 = .ok (.putfield 31, 3) := by decide +kernel
theorem dX0_open_5 : decode cX0_open 5 = .ok (.aload_n 0, 1) := by decide +kernel
theorem dX0_open_6 : decode cX0_open 6 = .ok (.iconst 0, 1) := by decide +kernel
theorem dX0_open_7 : decode cX0_open 7 = .ok (.putfield 35, 3) := by decide +kernel
theorem dX0_open_10 : decode cX0_open 10 = .ok (.aload_n 0, 1) := by decide +kernel
theorem dX0_open_11 : decode cX0_open 11 = .ok (.iconst 0, 1) := by decide +kernel
theorem dX0_open_12 : decode cX0_open 12 = .ok (.putfield 38, 3) := by decide +kernel
theorem dX0_open_15 : decode cX0_open 15 = .ok (.iconst 0, 1) := by decide +kernel
theorem dX0_open_16 : decode cX0_open 16 = .ok (.istore_n 1, 1) := by decide +kernel
theorem dX0_open_17 : decode cX0_open 17 = .ok (.iload_n 1, 1) := by decide +kernel
theorem dX0_open_18 : decode cX0_open 18 = .ok (.iconst 5, 1) := by decide +kernel
theorem dX0_open_19 : decode cX0_open 19 = .ok (.if_icmp .ge 16, 3) := by decide +kernel
theorem dX0_open_22 : decode cX0_open 22 = .ok (.aload_n 0, 1) := by decide +kernel
theorem dX0_open_23 : decode cX0_open 23 = .ok (.getfield 23, 3) := by decide +kernel
theorem dX0_open_26 : decode cX0_open 26 = .ok (.iload_n 1, 1) := by decide +kernel
theorem dX0_open_27 : decode cX0_open 27 = .ok (.iconst 1, 1) := by decide +kernel
theorem dX0_open_28 : decode cX0_open 28 = .ok (.iastore, 1) := by decide +kernel
theorem dX0_open_29 : decode cX0_open 29 = .ok (.iinc 1 1, 3) := by decide +kernel
theorem dX0_open_32 : decode cX0_open 32 = .ok (.goto (-15), 3) := by decide +kernel
theorem dX0_open_35 : decode cX0_open 35 = .ok (.return_, 1) := by decide +kernel
theorem dX0_apply_0 : decode cX0_apply 0 = .ok (.iload_n 1, 1) := by decide +kernel
theorem dX0_apply_1 : decode cX0_apply 1 = .ok (.tableswitch 71 1 4 #[31, 38, 53, 60], 31) := by decide +kernel
theorem dX0_apply_32 : decode cX0_apply 32 = .ok (.aload_n 0, 1) := by decide +kernel
theorem dX0_apply_33 : decode cX0_apply 33 = .ok (.iload_n 2, 1) := by decide +kernel
theorem dX0_apply_34 : decode cX0_apply 34 = .ok (.iload_n 3, 1) := by decide +kernel
theorem dX0_apply_35 : decode cX0_apply 35 = .ok (.invokevirtual 41, 3) := by decide +kernel
theorem dX0_apply_38 : decode cX0_apply 38 = .ok (.ireturn, 1) := by decide +kernel
theorem dX0_apply_39 : decode cX0_apply 39 = .ok (.aload_n 0, 1) := by decide +kernel
theorem dX0_apply_40 : decode cX0_apply 40 = .ok (.dup, 1) := by decide +kernel
theorem dX0_apply_41 : decode cX0_apply 41 = .ok (.getfield 38, 3) := by decide +kernel
theorem dX0_apply_44 : decode cX0_apply 44 = .ok (.iload_n 2, 1) := by decide +kernel
theorem dX0_apply_45 : decode cX0_apply 45 = .ok (.iadd, 1) := by decide +kernel
theorem dX0_apply_46 : decode cX0_apply 46 = .ok (.putfield 38, 3) := by decide +kernel
theorem dX0_apply_49 : decode cX0_apply 49 = .ok (.aload_n 0, 1) := by decide +kernel
theorem dX0_apply_50 : decode cX0_apply 50 = .ok (.getfield 38, 3) := by decide +kernel
theorem dX0_apply_53 : decode cX0_apply 53 = .ok (.ireturn, 1) := by decide +kernel
theorem dX0_apply_54 : decode cX0_apply 54 = .ok (.aload_n 0, 1) := by decide +kernel
theorem dX0_apply_55 : decode cX0_apply 55 = .ok (.iload_n 2, 1) := by decide +kernel
theorem dX0_apply_56 : decode cX0_apply 56 = .ok (.iload_n 3, 1) := by decide +kernel
theorem dX0_apply_57 : decode cX0_apply 57 = .ok (.invokevirtual 45, 3) := by decide +kernel
theorem dX0_apply_60 : decode cX0_apply 60 = .ok (.ireturn, 1) := by decide +kernel
theorem dX0_apply_61 : decode cX0_apply 61 = .ok (.aload_n 0, 1) := by decide +kernel
theorem dX0_apply_62 : decode cX0_apply 62 = .ok (.iload_n 2, 1) := by decide +kernel
theorem dX0_apply_63 : decode cX0_apply 63 = .ok (.iload_n 3, 1) := by decide +kernel
theorem dX0_apply_64 : decode cX0_apply 64 = .ok (.iload 4, 2) := by decide +kernel
theorem dX0_apply_66 : decode cX0_apply 66 = .ok (.iload 5, 2) := by decide +kernel
theorem dX0_apply_68 : decode cX0_apply 68 = .ok (.invokevirtual 48, 3) := by decide +kernel
theorem dX0_apply_71 : decode cX0_apply 71 = .ok (.ireturn, 1) := by decide +kernel
theorem dX0_apply_72 : decode cX0_apply 72 = .ok (.iload_n 2, 1) := by decide +kernel
theorem dX0_apply_73 : decode cX0_apply 73 = .ok (.ifCond .lt 11, 3) := by decide +kernel
theorem dX0_apply_76 : decode cX0_apply 76 = .ok (.iload_n 2, 1) := by decide +kernel
theorem dX0_apply_77 : decode cX0_apply 77 = .ok (.aload_n 0, 1) := by decide +kernel
theorem dX0_apply_78 : decode cX0_apply 78 = .ok (.getfield 35, 3) := by decide +kernel
theorem dX0_apply_81 : decode cX0_apply 81 = .ok (.if_icmp .lt 5, 3) := by decide +kernel
theorem dX0_apply_84 : decode cX0_apply 84 = .ok (.iconst (-1), 1) := by decide +kernel
theorem dX0_apply_85 : decode cX0_apply 85 = .ok (.ireturn, 1) := by decide +kernel
theorem dX0_apply_86 : decode cX0_apply 86 = .ok (.iload_n 1, 1) := by decide +kernel
theorem dX0_apply_87 : decode cX0_apply 87 = .ok (.bipush 8, 2) := by decide +kernel
theorem dX0_apply_89 : decode cX0_apply 89 = .ok (.if_icmp .gt 18, 3) := by decide +kernel
theorem dX0_apply_92 : decode cX0_apply 92 = .ok (.aload_n 0, 1) := by decide +kernel
theorem dX0_apply_93 : decode cX0_apply 93 = .ok (.iload_n 1, 1) := by decide +kernel
theorem dX0_apply_94 : decode cX0_apply 94 = .ok (.aload_n 0, 1) := by decide +kernel
theorem dX0_apply_95 : decode cX0_apply 95 = .ok (.getfield 19, 3) := by decide +kernel
theorem dX0_apply_98 : decode cX0_apply 98 = .ok (.iload_n 2, 1) := by decide +kernel
theorem dX0_apply_99 : decode cX0_apply 99 = .ok (.aaload, 1) := by decide +kernel
theorem dX0_apply_100 : decode cX0_apply 100 = .ok (.iload_n 3, 1) := by decide +kernel
theorem dX0_apply_101 : decode cX0_apply 101 = .ok (.invokevirtual 52, 3) := by decide +kernel
theorem dX0_apply_104 : decode cX0_apply 104 = .ok (.goto 15, 3) := by decide +kernel
theorem dX0_apply_107 : decode cX0_apply 107 = .ok (.aload_n 0, 1) := by decide +kernel
theorem dX0_apply_108 : decode cX0_apply 108 = .ok (.iload_n 1, 1) := by decide +kernel
theorem dX0_apply_109 : decode cX0_apply 109 = .ok (.aload_n 0, 1) := by decide +kernel
theorem dX0_apply_110 : decode cX0_apply 110 = .ok (.getfield 19, 3) := by decide +kernel
theorem dX0_apply_113 : decode cX0_apply 113 = .ok (.iload_n 2, 1) := by decide +kernel
theorem dX0_apply_114 : decode cX0_apply 114 = .ok (.aaload, 1) := by decide +kernel
theorem dX0_apply_115 : decode cX0_apply 115 = .ok (.iload_n 3, 1) := by decide +kernel
theorem dX0_apply_116 : decode cX0_apply 116 = .ok (.invokevirtual 56, 3) := by decide +kernel
theorem dX0_apply_119 : decode cX0_apply 119 = .ok (.ireturn, 1) := by decide +kernel
theorem dX0_applyAtIntake_0 : decode cX0_applyAtIntake 0 = .ok (.iload_n 1, 1) := by decide +kernel
theorem dX0_applyAtIntake_1 : decode cX0_applyAtIntake 1 = .ok (.tableswitch 71 5 7 #[27, 43, 49], 27) := by decide +kernel
theorem dX0_applyAtIntake_28 : decode cX0_applyAtIntake 28 = .ok (.aload_n 0, 1) := by decide +kernel
theorem dX0_applyAtIntake_29 : decode cX0_applyAtIntake 29 = .ok (.aload_n 2, 1) := by decide +kernel
theorem dX0_applyAtIntake_30 : decode cX0_applyAtIntake 30 = .ok (.iload_n 3, 1) := by decide +kernel
theorem dX0_applyAtIntake_31 : decode cX0_applyAtIntake 31 = .ok (.iconst 1, 1) := by decide +kernel
theorem dX0_applyAtIntake_32 : decode cX0_applyAtIntake 32 = .ok (.if_icmp .ne 7, 3) := by decide +kernel
theorem dX0_applyAtIntake_35 : decode cX0_applyAtIntake 35 = .ok (.iconst 1, 1) := by decide +kernel
theorem dX0_applyAtIntake_36 : decode cX0_applyAtIntake 36 = .ok (.goto 4, 3) := by decide +kernel
theorem dX0_applyAtIntake_39 : decode cX0_applyAtIntake 39 = .ok (.iconst 0, 1) := by decide +kernel
theorem dX0_applyAtIntake_40 : decode cX0_applyAtIntake 40 = .ok (.invokevirtual 59, 3) := by decide +kernel
theorem dX0_applyAtIntake_43 : decode cX0_applyAtIntake 43 = .ok (.ireturn, 1) := by decide +kernel
theorem dX0_applyAtIntake_44 : decode cX0_applyAtIntake 44 = .ok (.aload_n 0, 1) := by decide +kernel
theorem dX0_applyAtIntake_45 : decode cX0_applyAtIntake 45 = .ok (.aload_n 2, 1) := by decide +kernel
theorem dX0_applyAtIntake_46 : decode cX0_applyAtIntake 46 = .ok (.invokevirtual 63, 3) := by decide +kernel
theorem dX0_applyAtIntake_49 : decode cX0_applyAtIntake 49 = .ok (.ireturn, 1) := by decide +kernel
theorem dX0_applyAtIntake_50 : decode cX0_applyAtIntake 50 = .ok (.aload_n 2, 1) := by decide +kernel
theorem dX0_applyAtIntake_51 : decode cX0_applyAtIntake 51 = .ok (.aload_n 0, 1) := by decide +kernel
theorem dX0_applyAtIntake_52 : decode cX0_applyAtIntake 52 = .ok (.getfield 38, 3) := by decide +kernel
theorem dX0_applyAtIntake_55 : decode cX0_applyAtIntake 55 = .ok (.putfield 67, 3) := by decide +kernel
theorem dX0_applyAtIntake_58 : decode cX0_applyAtIntake 58 = .ok (.aload_n 0, 1) := by decide +kernel
theorem dX0_applyAtIntake_59 : decode cX0_applyAtIntake 59 = .ok (.getfield 38, 3) := by decide +kernel
theorem dX0_applyAtIntake_62 : decode cX0_applyAtIntake 62 = .ok (.aload_n 0, 1) := by decide +kernel
theorem dX0_applyAtIntake_63 : decode cX0_applyAtIntake 63 = .ok (.aload_n 2, 1) := by decide +kernel
theorem dX0_applyAtIntake_64 : decode cX0_applyAtIntake 64 = .ok (.invokevirtual 70, 3) := by decide +kernel
theorem dX0_applyAtIntake_67 : decode cX0_applyAtIntake 67 = .ok (.getfield 74, 3) := by decide +kernel
theorem dX0_applyAtIntake_70 : decode cX0_applyAtIntake 70 = .ok (.iadd, 1) := by decide +kernel
theorem dX0_applyAtIntake_71 : decode cX0_applyAtIntake 71 = .ok (.ireturn, 1) := by decide +kernel
theorem dX0_applyAtIntake_72 : decode cX0_applyAtIntake 72 = .ok (.aload_n 2, 1) := by decide +kernel
theorem dX0_applyAtIntake_73 : decode cX0_applyAtIntake 73 = .ok (.aload_n 0, 1) := by decide +kernel
theorem dX0_applyAtIntake_74 : decode cX0_applyAtIntake 74 = .ok (.aload_n 2, 1) := by decide +kernel
theorem dX0_applyAtIntake_75 : decode cX0_applyAtIntake 75 = .ok (.invokevirtual 77, 3) := by decide +kernel
theorem dX0_applyAtIntake_78 : decode cX0_applyAtIntake 78 = .ok (.aload_n 0, 1) := by decide +kernel
theorem dX0_applyAtIntake_79 : decode cX0_applyAtIntake 79 = .ok (.getfield 38, 3) := by decide +kernel
theorem dX0_applyAtIntake_82 : decode cX0_applyAtIntake 82 = .ok (.invokevirtual 81, 3) := by decide +kernel
theorem dX0_applyAtIntake_85 : decode cX0_applyAtIntake 85 = .ok (.aload_n 2, 1) := by decide +kernel
theorem dX0_applyAtIntake_86 : decode cX0_applyAtIntake 86 = .ok (.getfield 85, 3) := by decide +kernel
theorem dX0_applyAtIntake_89 : decode cX0_applyAtIntake 89 = .ok (.ireturn, 1) := by decide +kernel
theorem dX0_applyToCase_0 : decode cX0_applyToCase 0 = .ok (.iload_n 1, 1) := by decide +kernel
theorem dX0_applyToCase_1 : decode cX0_applyToCase 1 = .ok (.tableswitch 221 9 20 #[63, 69, 76, 82, 107, 123, 130, 136, 143, 176, 209, 215], 63) := by decide +kernel
theorem dX0_applyToCase_64 : decode cX0_applyToCase 64 = .ok (.aload_n 0, 1) := by decide +kernel
theorem dX0_applyToCase_65 : decode cX0_applyToCase 65 = .ok (.aload_n 2, 1) := by decide +kernel
theorem dX0_applyToCase_66 : decode cX0_applyToCase 66 = .ok (.invokevirtual 89, 3) := by decide +kernel
theorem dX0_applyToCase_69 : decode cX0_applyToCase 69 = .ok (.ireturn, 1) := by decide +kernel
theorem dX0_applyToCase_70 : decode cX0_applyToCase 70 = .ok (.aload_n 0, 1) := by decide +kernel
theorem dX0_applyToCase_71 : decode cX0_applyToCase 71 = .ok (.aload_n 2, 1) := by decide +kernel
theorem dX0_applyToCase_72 : decode cX0_applyToCase 72 = .ok (.iload_n 3, 1) := by decide +kernel
theorem dX0_applyToCase_73 : decode cX0_applyToCase 73 = .ok (.invokevirtual 92, 3) := by decide +kernel
theorem dX0_applyToCase_76 : decode cX0_applyToCase 76 = .ok (.ireturn, 1) := by decide +kernel
theorem dX0_applyToCase_77 : decode cX0_applyToCase 77 = .ok (.aload_n 0, 1) := by decide +kernel
theorem dX0_applyToCase_78 : decode cX0_applyToCase 78 = .ok (.aload_n 2, 1) := by decide +kernel
theorem dX0_applyToCase_79 : decode cX0_applyToCase 79 = .ok (.invokevirtual 96, 3) := by decide +kernel
theorem dX0_applyToCase_82 : decode cX0_applyToCase 82 = .ok (.ireturn, 1) := by decide +kernel
theorem dX0_applyToCase_83 : decode cX0_applyToCase 83 = .ok (.aload_n 0, 1) := by decide +kernel
theorem dX0_applyToCase_84 : decode cX0_applyToCase 84 = .ok (.aload_n 2, 1) := by decide +kernel
theorem dX0_applyToCase_85 : decode cX0_applyToCase 85 = .ok (.bipush 115, 2) := by decide +kernel
theorem dX0_applyToCase_87 : decode cX0_applyToCase 87 = .ok (.invokevirtual 99, 3) := by decide +kernel
theorem dX0_applyToCase_90 : decode cX0_applyToCase 90 = .ok (.pop, 1) := by decide +kernel
theorem dX0_applyToCase_91 : decode cX0_applyToCase 91 = .ok (.iconst 0, 1) := by decide +kernel
theorem dX0_applyToCase_92 : decode cX0_applyToCase 92 = .ok (.aload_n 0, 1) := by decide +kernel
theorem dX0_applyToCase_93 : decode cX0_applyToCase 93 = .ok (.getfield 38, 3) := by decide +kernel
theorem dX0_applyToCase_96 : decode cX0_applyToCase 96 = .ok (.aload_n 2, 1) := by decide +kernel
theorem dX0_applyToCase_97 : decode cX0_applyToCase 97 = .ok (.getfield 103, 3) := by decide +kernel
theorem dX0_applyToCase_100 : decode cX0_applyToCase 100 = .ok (.getfield 107, 3) := by decide +kernel
theorem dX0_applyToCase_103 : decode cX0_applyToCase 103 = .ok (.isub, 1) := by decide +kernel
theorem dX0_applyToCase_104 : decode cX0_applyToCase 104 = .ok (.invokestatic 112, 3) := by decide +kernel
theorem dX0_applyToCase_107 : decode cX0_applyToCase 107 = .ok (.ireturn, 1) := by decide +kernel
theorem dX0_applyToCase_108 : decode cX0_applyToCase 108 = .ok (.aload_n 2, 1) := by decide +kernel
theorem dX0_applyToCase_109 : decode cX0_applyToCase 109 = .ok (.getfield 103, 3) := by decide +kernel
theorem dX0_applyToCase_112 : decode cX0_applyToCase 112 = .ok (.iconst 1, 1) := by decide +kernel
theorem dX0_applyToCase_113 : decode cX0_applyToCase 113 = .ok (.putfield 117, 3) := by decide +kernel
theorem dX0_applyToCase_116 : decode cX0_applyToCase 116 = .ok (.aload_n 0, 1) := by decide +kernel
theorem dX0_applyToCase_117 : decode cX0_applyToCase 117 = .ok (.aload_n 2, 1) := by decide +kernel
theorem dX0_applyToCase_118 : decode cX0_applyToCase 118 = .ok (.bipush 115, 2) := by decide +kernel
theorem dX0_applyToCase_120 : decode cX0_applyToCase 120 = .ok (.invokevirtual 99, 3) := by decide +kernel
theorem dX0_applyToCase_123 : decode cX0_applyToCase 123 = .ok (.ireturn, 1) := by decide +kernel
theorem dX0_applyToCase_124 : decode cX0_applyToCase 124 = .ok (.aload_n 0, 1) := by decide +kernel
theorem dX0_applyToCase_125 : decode cX0_applyToCase 125 = .ok (.aload_n 2, 1) := by decide +kernel
theorem dX0_applyToCase_126 : decode cX0_applyToCase 126 = .ok (.iload_n 3, 1) := by decide +kernel
theorem dX0_applyToCase_127 : decode cX0_applyToCase 127 = .ok (.invokevirtual 121, 3) := by decide +kernel
theorem dX0_applyToCase_130 : decode cX0_applyToCase 130 = .ok (.ireturn, 1) := by decide +kernel
theorem dX0_applyToCase_131 : decode cX0_applyToCase 131 = .ok (.aload_n 0, 1) := by decide +kernel
theorem dX0_applyToCase_132 : decode cX0_applyToCase 132 = .ok (.aload_n 2, 1) := by decide +kernel
theorem dX0_applyToCase_133 : decode cX0_applyToCase 133 = .ok (.invokevirtual 124, 3) := by decide +kernel
theorem dX0_applyToCase_136 : decode cX0_applyToCase 136 = .ok (.ireturn, 1) := by decide +kernel
theorem dX0_applyToCase_137 : decode cX0_applyToCase 137 = .ok (.aload_n 0, 1) := by decide +kernel
theorem dX0_applyToCase_138 : decode cX0_applyToCase 138 = .ok (.aload_n 2, 1) := by decide +kernel
theorem dX0_applyToCase_139 : decode cX0_applyToCase 139 = .ok (.iload_n 3, 1) := by decide +kernel
theorem dX0_applyToCase_140 : decode cX0_applyToCase 140 = .ok (.invokevirtual 127, 3) := by decide +kernel
theorem dX0_applyToCase_143 : decode cX0_applyToCase 143 = .ok (.ireturn, 1) := by decide +kernel
theorem dX0_applyToCase_144 : decode cX0_applyToCase 144 = .ok (.aload_n 2, 1) := by decide +kernel
theorem dX0_applyToCase_145 : decode cX0_applyToCase 145 = .ok (.getfield 130, 3) := by decide +kernel
theorem dX0_applyToCase_148 : decode cX0_applyToCase 148 = .ok (.iconst 1, 1) := by decide +kernel
theorem dX0_applyToCase_149 : decode cX0_applyToCase 149 = .ok (.putfield 134, 3) := by decide +kernel
theorem dX0_applyToCase_152 : decode cX0_applyToCase 152 = .ok (.aload_n 2, 1) := by decide +kernel
theorem dX0_applyToCase_153 : decode cX0_applyToCase 153 = .ok (.getfield 130, 3) := by decide +kernel
theorem dX0_applyToCase_156 : decode cX0_applyToCase 156 = .ok (.iload_n 3, 1) := by decide +kernel
theorem dX0_applyToCase_157 : decode cX0_applyToCase 157 = .ok (.iconst 1, 1) := by decide +kernel
theorem dX0_applyToCase_158 : decode cX0_applyToCase 158 = .ok (.if_icmp .ne 7, 3) := by decide +kernel
theorem dX0_applyToCase_161 : decode cX0_applyToCase 161 = .ok (.iconst 1, 1) := by decide +kernel
theorem dX0_applyToCase_162 : decode cX0_applyToCase 162 = .ok (.goto 4, 3) := by decide +kernel
theorem dX0_applyToCase_165 : decode cX0_applyToCase 165 = .ok (.iconst 0, 1) := by decide +kernel
theorem dX0_applyToCase_166 : decode cX0_applyToCase 166 = .ok (.putfield 139, 3) := by decide +kernel
theorem dX0_applyToCase_169 : decode cX0_applyToCase 169 = .ok (.aload_n 2, 1) := by decide +kernel
theorem dX0_applyToCase_170 : decode cX0_applyToCase 170 = .ok (.getfield 130, 3) := by decide +kernel
theorem dX0_applyToCase_173 : decode cX0_applyToCase 173 = .ok (.getfield 142, 3) := by decide +kernel
theorem dX0_applyToCase_176 : decode cX0_applyToCase 176 = .ok (.ireturn, 1) := by decide +kernel
theorem dX0_applyToCase_177 : decode cX0_applyToCase 177 = .ok (.aload_n 0, 1) := by decide +kernel
theorem dX0_applyToCase_178 : decode cX0_applyToCase 178 = .ok (.aload_n 2, 1) := by decide +kernel
theorem dX0_applyToCase_179 : decode cX0_applyToCase 179 = .ok (.invokevirtual 70, 3) := by decide +kernel
theorem dX0_applyToCase_182 : decode cX0_applyToCase 182 = .ok (.dup, 1) := by decide +kernel
theorem dX0_applyToCase_183 : decode cX0_applyToCase 183 = .ok (.getfield 145, 3) := by decide +kernel
theorem dX0_applyToCase_186 : decode cX0_applyToCase 186 = .ok (.aload_n 0, 1) := by decide +kernel
theorem dX0_applyToCase_187 : decode cX0_applyToCase 187 = .ok (.aload_n 2, 1) := by decide +kernel
theorem dX0_applyToCase_188 : decode cX0_applyToCase 188 = .ok (.bipush 104, 2) := by decide +kernel
theorem dX0_applyToCase_190 : decode cX0_applyToCase 190 = .ok (.invokevirtual 99, 3) := by decide +kernel
theorem dX0_applyToCase_193 : decode cX0_applyToCase 193 = .ok (.iadd, 1) := by decide +kernel
theorem dX0_applyToCase_194 : decode cX0_applyToCase 194 = .ok (.putfield 145, 3) := by decide +kernel
theorem dX0_applyToCase_197 : decode cX0_applyToCase 197 = .ok (.aload_n 2, 1) := by decide +kernel
theorem dX0_applyToCase_198 : decode cX0_applyToCase 198 = .ok (.getfield 130, 3) := by decide +kernel
theorem dX0_applyToCase_201 : decode cX0_applyToCase 201 = .ok (.getfield 142, 3) := by decide +kernel
theorem dX0_applyToCase_204 : decode cX0_applyToCase 204 = .ok (.aload_n 0, 1) := by decide +kernel
theorem dX0_applyToCase_205 : decode cX0_applyToCase 205 = .ok (.getfield 38, 3) := by decide +kernel
theorem dX0_applyToCase_208 : decode cX0_applyToCase 208 = .ok (.isub, 1) := by decide +kernel
theorem dX0_applyToCase_209 : decode cX0_applyToCase 209 = .ok (.ireturn, 1) := by decide +kernel
theorem dX0_applyToCase_210 : decode cX0_applyToCase 210 = .ok (.aload_n 0, 1) := by decide +kernel
theorem dX0_applyToCase_211 : decode cX0_applyToCase 211 = .ok (.aload_n 2, 1) := by decide +kernel
theorem dX0_applyToCase_212 : decode cX0_applyToCase 212 = .ok (.invokevirtual 148, 3) := by decide +kernel
theorem dX0_applyToCase_215 : decode cX0_applyToCase 215 = .ok (.ireturn, 1) := by decide +kernel
theorem dX0_applyToCase_216 : decode cX0_applyToCase 216 = .ok (.aload_n 0, 1) := by decide +kernel
theorem dX0_applyToCase_217 : decode cX0_applyToCase 217 = .ok (.aload_n 2, 1) := by decide +kernel
theorem dX0_applyToCase_218 : decode cX0_applyToCase 218 = .ok (.invokevirtual 151, 3) := by decide +kernel
theorem dX0_applyToCase_221 : decode cX0_applyToCase 221 = .ok (.ireturn, 1) := by decide +kernel
theorem dX0_applyToCase_222 : decode cX0_applyToCase 222 = .ok (.iconst (-1), 1) := by decide +kernel
theorem dX0_applyToCase_223 : decode cX0_applyToCase 223 = .ok (.ireturn, 1) := by decide +kernel
theorem dX0_openOffice_0 : decode cX0_openOffice 0 = .ok (.aload_n 0, 1) := by decide +kernel
theorem dX0_openOffice_1 : decode cX0_openOffice 1 = .ok (.getfield 31, 3) := by decide +kernel
theorem dX0_openOffice_4 : decode cX0_openOffice 4 = .ok (.bipush 6, 2) := by decide +kernel
theorem dX0_openOffice_6 : decode cX0_openOffice 6 = .ok (.if_icmp .lt 5, 3) := by decide +kernel
theorem dX0_openOffice_9 : decode cX0_openOffice 9 = .ok (.iconst (-1), 1) := by decide +kernel
theorem dX0_openOffice_10 : decode cX0_openOffice 10 = .ok (.ireturn, 1) := by decide +kernel
theorem dX0_openOffice_11 : decode cX0_openOffice 11 = .ok (.aload_n 0, 1) := by decide +kernel
theorem dX0_openOffice_12 : decode cX0_openOffice 12 = .ok (.getfield 11, 3) := by decide +kernel
theorem dX0_openOffice_15 : decode cX0_openOffice 15 = .ok (.aload_n 0, 1) := by decide +kernel
theorem dX0_openOffice_16 : decode cX0_openOffice 16 = .ok (.getfield 31, 3) := by decide +kernel
theorem dX0_openOffice_19 : decode cX0_openOffice 19 = .ok (.aaload, 1) := by decide +kernel
theorem dX0_openOffice_20 : decode cX0_openOffice 20 = .ok (.iload_n 1, 1) := by decide +kernel
theorem dX0_openOffice_21 : decode cX0_openOffice 21 = .ok (.iload_n 2, 1) := by decide +kernel
theorem dX0_openOffice_22 : decode cX0_openOffice 22 = .ok (.invokevirtual 154, 3) := by decide +kernel
theorem dX0_openOffice_25 : decode cX0_openOffice 25 = .ok (.aload_n 0, 1) := by decide +kernel
theorem dX0_openOffice_26 : decode cX0_openOffice 26 = .ok (.dup, 1) := by decide +kernel
theorem dX0_openOffice_27 : decode cX0_openOffice 27 = .ok (.getfield 31, 3) := by decide +kernel
theorem dX0_openOffice_30 : decode cX0_openOffice 30 = .ok (.iconst 1, 1) := by decide +kernel
theorem dX0_openOffice_31 : decode cX0_openOffice 31 = .ok (.iadd, 1) := by decide +kernel
theorem dX0_openOffice_32 : decode cX0_openOffice 32 = .ok (.putfield 31, 3) := by decide +kernel
theorem dX0_openOffice_35 : decode cX0_openOffice 35 = .ok (.aload_n 0, 1) := by decide +kernel
theorem dX0_openOffice_36 : decode cX0_openOffice 36 = .ok (.getfield 31, 3) := by decide +kernel
theorem dX0_openOffice_39 : decode cX0_openOffice 39 = .ok (.iconst 1, 1) := by decide +kernel
theorem dX0_openOffice_40 : decode cX0_openOffice 40 = .ok (.isub, 1) := by decide +kernel
theorem dX0_openOffice_41 : decode cX0_openOffice 41 = .ok (.ireturn, 1) := by decide +kernel
theorem dX0_weigh_0 : decode cX0_weigh 0 = .ok (.iload_n 1, 1) := by decide +kernel
theorem dX0_weigh_1 : decode cX0_weigh 1 = .ok (.ifCond .lt 8, 3) := by decide +kernel
theorem dX0_weigh_4 : decode cX0_weigh 4 = .ok (.iload_n 1, 1) := by decide +kernel
theorem dX0_weigh_5 : decode cX0_weigh 5 = .ok (.iconst 5, 1) := by decide +kernel
theorem dX0_weigh_6 : decode cX0_weigh 6 = .ok (.if_icmp .lt 5, 3) := by decide +kernel
theorem dX0_weigh_9 : decode cX0_weigh 9 = .ok (.iconst (-1), 1) := by decide +kernel
theorem dX0_weigh_10 : decode cX0_weigh 10 = .ok (.ireturn, 1) := by decide +kernel
theorem dX0_weigh_11 : decode cX0_weigh 11 = .ok (.aload_n 0, 1) := by decide +kernel
theorem dX0_weigh_12 : decode cX0_weigh 12 = .ok (.getfield 23, 3) := by decide +kernel
theorem dX0_weigh_15 : decode cX0_weigh 15 = .ok (.iload_n 1, 1) := by decide +kernel
theorem dX0_weigh_16 : decode cX0_weigh 16 = .ok (.iaload, 1) := by decide +kernel
theorem dX0_weigh_17 : decode cX0_weigh 17 = .ok (.istore_n 3, 1) := by decide +kernel
theorem dX0_weigh_18 : decode cX0_weigh 18 = .ok (.aload_n 0, 1) := by decide +kernel
theorem dX0_weigh_19 : decode cX0_weigh 19 = .ok (.getfield 23, 3) := by decide +kernel
theorem dX0_weigh_22 : decode cX0_weigh 22 = .ok (.iload_n 1, 1) := by decide +kernel
theorem dX0_weigh_23 : decode cX0_weigh 23 = .ok (.iload_n 2, 1) := by decide +kernel
theorem dX0_weigh_24 : decode cX0_weigh 24 = .ok (.iastore, 1) := by decide +kernel
theorem dX0_weigh_25 : decode cX0_weigh 25 = .ok (.iload_n 3, 1) := by decide +kernel
theorem dX0_weigh_26 : decode cX0_weigh 26 = .ok (.ireturn, 1) := by decide +kernel
theorem dX0_hear_0 : decode cX0_hear 0 = .ok (.iload_n 1, 1) := by decide +kernel
theorem dX0_hear_1 : decode cX0_hear 1 = .ok (.ifCond .lt 20, 3) := by decide +kernel
theorem dX0_hear_4 : decode cX0_hear 4 = .ok (.iload_n 1, 1) := by decide +kernel
theorem dX0_hear_5 : decode cX0_hear 5 = .ok (.aload_n 0, 1) := by decide +kernel
theorem dX0_hear_6 : decode cX0_hear 6 = .ok (.getfield 31, 3) := by decide +kernel
theorem dX0_hear_9 : decode cX0_hear 9 = .ok (.if_icmp .ge 12, 3) := by decide +kernel
theorem dX0_hear_12 : decode cX0_hear 12 = .ok (.aload_n 0, 1) := by decide +kernel
theorem dX0_hear_13 : decode cX0_hear 13 = .ok (.getfield 35, 3) := by decide +kernel
theorem dX0_hear_16 : decode cX0_hear 16 = .ok (.bipush 20, 2) := by decide +kernel
theorem dX0_hear_18 : decode cX0_hear 18 = .ok (.if_icmp .lt 5, 3) := by decide +kernel
theorem dX0_hear_21 : decode cX0_hear 21 = .ok (.iconst (-1), 1) := by decide +kernel
theorem dX0_hear_22 : decode cX0_hear 22 = .ok (.ireturn, 1) := by decide +kernel
theorem dX0_hear_23 : decode cX0_hear 23 = .ok (.aload_n 0, 1) := by decide +kernel
theorem dX0_hear_24 : decode cX0_hear 24 = .ok (.getfield 19, 3) := by decide +kernel
theorem dX0_hear_27 : decode cX0_hear 27 = .ok (.aload_n 0, 1) := by decide +kernel
theorem dX0_hear_28 : decode cX0_hear 28 = .ok (.getfield 35, 3) := by decide +kernel
theorem dX0_hear_31 : decode cX0_hear 31 = .ok (.aaload, 1) := by decide +kernel
theorem dX0_hear_32 : decode cX0_hear 32 = .ok (.iload_n 1, 1) := by decide +kernel
theorem dX0_hear_33 : decode cX0_hear 33 = .ok (.iload_n 2, 1) := by decide +kernel
theorem dX0_hear_34 : decode cX0_hear 34 = .ok (.iload_n 3, 1) := by decide +kernel
theorem dX0_hear_35 : decode cX0_hear 35 = .ok (.iload 4, 2) := by decide +kernel
theorem dX0_hear_37 : decode cX0_hear 37 = .ok (.aload_n 0, 1) := by decide +kernel
theorem dX0_hear_38 : decode cX0_hear 38 = .ok (.getfield 38, 3) := by decide +kernel
theorem dX0_hear_41 : decode cX0_hear 41 = .ok (.invokevirtual 158, 3) := by decide +kernel
theorem dX0_hear_44 : decode cX0_hear 44 = .ok (.aload_n 0, 1) := by decide +kernel
theorem dX0_hear_45 : decode cX0_hear 45 = .ok (.dup, 1) := by decide +kernel
theorem dX0_hear_46 : decode cX0_hear 46 = .ok (.getfield 35, 3) := by decide +kernel
theorem dX0_hear_49 : decode cX0_hear 49 = .ok (.iconst 1, 1) := by decide +kernel
theorem dX0_hear_50 : decode cX0_hear 50 = .ok (.iadd, 1) := by decide +kernel
theorem dX0_hear_51 : decode cX0_hear 51 = .ok (.putfield 35, 3) := by decide +kernel
theorem dX0_hear_54 : decode cX0_hear 54 = .ok (.aload_n 0, 1) := by decide +kernel
theorem dX0_hear_55 : decode cX0_hear 55 = .ok (.getfield 35, 3) := by decide +kernel
theorem dX0_hear_58 : decode cX0_hear 58 = .ok (.iconst 1, 1) := by decide +kernel
theorem dX0_hear_59 : decode cX0_hear 59 = .ok (.isub, 1) := by decide +kernel
theorem dX0_hear_60 : decode cX0_hear 60 = .ok (.ireturn, 1) := by decide +kernel
theorem dX0_tellOfCourt_0 : decode cX0_tellOfCourt 0 = .ok (.aload_n 1, 1) := by decide +kernel
theorem dX0_tellOfCourt_1 : decode cX0_tellOfCourt 1 = .ok (.getfield 161, 3) := by decide +kernel
theorem dX0_tellOfCourt_4 : decode cX0_tellOfCourt 4 = .ok (.ifCond .eq 7, 3) := by decide +kernel
theorem dX0_tellOfCourt_7 : decode cX0_tellOfCourt 7 = .ok (.iconst 1, 1) := by decide +kernel
theorem dX0_tellOfCourt_8 : decode cX0_tellOfCourt 8 = .ok (.goto 4, 3) := by decide +kernel
theorem dX0_tellOfCourt_11 : decode cX0_tellOfCourt 11 = .ok (.iconst 0, 1) := by decide +kernel
theorem dX0_tellOfCourt_12 : decode cX0_tellOfCourt 12 = .ok (.istore_n 3, 1) := by decide +kernel
theorem dX0_tellOfCourt_13 : decode cX0_tellOfCourt 13 = .ok (.aload_n 1, 1) := by decide +kernel
theorem dX0_tellOfCourt_14 : decode cX0_tellOfCourt 14 = .ok (.iload_n 2, 1) := by decide +kernel
theorem dX0_tellOfCourt_15 : decode cX0_tellOfCourt 15 = .ok (.putfield 161, 3) := by decide +kernel
theorem dX0_tellOfCourt_18 : decode cX0_tellOfCourt 18 = .ok (.iload_n 3, 1) := by decide +kernel
theorem dX0_tellOfCourt_19 : decode cX0_tellOfCourt 19 = .ok (.ireturn, 1) := by decide +kernel
theorem dX0_tellOfReason_0 : decode cX0_tellOfReason 0 = .ok (.aload_n 1, 1) := by decide +kernel
theorem dX0_tellOfReason_1 : decode cX0_tellOfReason 1 = .ok (.getfield 164, 3) := by decide +kernel
theorem dX0_tellOfReason_4 : decode cX0_tellOfReason 4 = .ok (.ifCond .eq 7, 3) := by decide +kernel
theorem dX0_tellOfReason_7 : decode cX0_tellOfReason 7 = .ok (.iconst 1, 1) := by decide +kernel
theorem dX0_tellOfReason_8 : decode cX0_tellOfReason 8 = .ok (.goto 4, 3) := by decide +kernel
theorem dX0_tellOfReason_11 : decode cX0_tellOfReason 11 = .ok (.iconst 0, 1) := by decide +kernel
theorem dX0_tellOfReason_12 : decode cX0_tellOfReason 12 = .ok (.istore_n 2, 1) := by decide +kernel
theorem dX0_tellOfReason_13 : decode cX0_tellOfReason 13 = .ok (.aload_n 1, 1) := by decide +kernel
theorem dX0_tellOfReason_14 : decode cX0_tellOfReason 14 = .ok (.iconst 1, 1) := by decide +kernel
theorem dX0_tellOfReason_15 : decode cX0_tellOfReason 15 = .ok (.putfield 164, 3) := by decide +kernel
theorem dX0_tellOfReason_18 : decode cX0_tellOfReason 18 = .ok (.iload_n 2, 1) := by decide +kernel
theorem dX0_tellOfReason_19 : decode cX0_tellOfReason 19 = .ok (.ireturn, 1) := by decide +kernel
theorem dX0_intakeOf_0 : decode cX0_intakeOf 0 = .ok (.aload_n 0, 1) := by decide +kernel
theorem dX0_intakeOf_1 : decode cX0_intakeOf 1 = .ok (.aload_n 1, 1) := by decide +kernel
theorem dX0_intakeOf_2 : decode cX0_intakeOf 2 = .ok (.invokevirtual 70, 3) := by decide +kernel
theorem dX0_intakeOf_5 : decode cX0_intakeOf 5 = .ok (.astore_n 2, 1) := by decide +kernel
theorem dX0_intakeOf_6 : decode cX0_intakeOf 6 = .ok (.aload_n 2, 1) := by decide +kernel
theorem dX0_intakeOf_7 : decode cX0_intakeOf 7 = .ok (.getfield 167, 3) := by decide +kernel
theorem dX0_intakeOf_10 : decode cX0_intakeOf 10 = .ok (.aload_n 1, 1) := by decide +kernel
theorem dX0_intakeOf_11 : decode cX0_intakeOf 11 = .ok (.getfield 170, 3) := by decide +kernel
theorem dX0_intakeOf_14 : decode cX0_intakeOf 14 = .ok (.ishr, 1) := by decide +kernel
theorem dX0_intakeOf_15 : decode cX0_intakeOf 15 = .ok (.iconst 1, 1) := by decide +kernel
theorem dX0_intakeOf_16 : decode cX0_intakeOf 16 = .ok (.iand, 1) := by decide +kernel
theorem dX0_intakeOf_17 : decode cX0_intakeOf 17 = .ok (.ifCond .eq 10, 3) := by decide +kernel
theorem dX0_intakeOf_20 : decode cX0_intakeOf 20 = .ok (.aload_n 1, 1) := by decide +kernel
theorem dX0_intakeOf_21 : decode cX0_intakeOf 21 = .ok (.getfield 161, 3) := by decide +kernel
theorem dX0_intakeOf_24 : decode cX0_intakeOf 24 = .ok (.ifCond .eq 6, 3) := by decide +kernel
theorem dX0_intakeOf_27 : decode cX0_intakeOf 27 = .ok (.bipush 111, 2) := by decide +kernel
theorem dX0_intakeOf_29 : decode cX0_intakeOf 29 = .ok (.ireturn, 1) := by decide +kernel
theorem dX0_intakeOf_30 : decode cX0_intakeOf 30 = .ok (.aload_n 1, 1) := by decide +kernel
theorem dX0_intakeOf_31 : decode cX0_intakeOf 31 = .ok (.getfield 173, 3) := by decide +kernel
theorem dX0_intakeOf_34 : decode cX0_intakeOf 34 = .ok (.aload_n 1, 1) := by decide +kernel
theorem dX0_intakeOf_35 : decode cX0_intakeOf 35 = .ok (.getfield 176, 3) := by decide +kernel
theorem dX0_intakeOf_38 : decode cX0_intakeOf 38 = .ok (.isub, 1) := by decide +kernel
theorem dX0_intakeOf_39 : decode cX0_intakeOf 39 = .ok (.sipush 365, 3) := by decide +kernel
theorem dX0_intakeOf_42 : decode cX0_intakeOf 42 = .ok (.if_icmp .le 13, 3) := by decide +kernel
theorem dX0_intakeOf_45 : decode cX0_intakeOf 45 = .ok (.aload_n 1, 1) := by decide +kernel
theorem dX0_intakeOf_46 : decode cX0_intakeOf 46 = .ok (.getfield 164, 3) := by decide +kernel
theorem dX0_intakeOf_49 : decode cX0_intakeOf 49 = .ok (.ifCond .ne 6, 3) := by decide +kernel
theorem dX0_intakeOf_52 : decode cX0_intakeOf 52 = .ok (.bipush 108, 2) := by decide +kernel
theorem dX0_intakeOf_54 : decode cX0_intakeOf 54 = .ok (.ireturn, 1) := by decide +kernel
theorem dX0_intakeOf_55 : decode cX0_intakeOf 55 = .ok (.aload_n 1, 1) := by decide +kernel
theorem dX0_intakeOf_56 : decode cX0_intakeOf 56 = .ok (.getfield 67, 3) := by decide +kernel
theorem dX0_intakeOf_59 : decode cX0_intakeOf 59 = .ok (.iconst (-1), 1) := by decide +kernel
theorem dX0_intakeOf_60 : decode cX0_intakeOf 60 = .ok (.if_icmp .eq 19, 3) := by decide +kernel
theorem dX0_intakeOf_63 : decode cX0_intakeOf 63 = .ok (.aload_n 0, 1) := by decide +kernel
theorem dX0_intakeOf_64 : decode cX0_intakeOf 64 = .ok (.getfield 38, 3) := by decide +kernel
theorem dX0_intakeOf_67 : decode cX0_intakeOf 67 = .ok (.aload_n 1, 1) := by decide +kernel
theorem dX0_intakeOf_68 : decode cX0_intakeOf 68 = .ok (.getfield 67, 3) := by decide +kernel
theorem dX0_intakeOf_71 : decode cX0_intakeOf 71 = .ok (.isub, 1) := by decide +kernel
theorem dX0_intakeOf_72 : decode cX0_intakeOf 72 = .ok (.aload_n 2, 1) := by decide +kernel
theorem dX0_intakeOf_73 : decode cX0_intakeOf 73 = .ok (.getfield 74, 3) := by decide +kernel
theorem dX0_intakeOf_76 : decode cX0_intakeOf 76 = .ok (.if_icmp .ge 6, 3) := by decide +kernel
theorem dX0_intakeOf_79 : decode cX0_intakeOf 79 = .ok (.bipush 102, 2) := by decide +kernel
theorem dX0_intakeOf_81 : decode cX0_intakeOf 81 = .ok (.ireturn, 1) := by decide +kernel
theorem dX0_intakeOf_82 : decode cX0_intakeOf 82 = .ok (.bipush 114, 2) := by decide +kernel
theorem dX0_intakeOf_84 : decode cX0_intakeOf 84 = .ok (.ireturn, 1) := by decide +kernel
theorem dX0_putToOffice_0 : decode cX0_putToOffice 0 = .ok (.aload_n 1, 1) := by decide +kernel
theorem dX0_putToOffice_1 : decode cX0_putToOffice 1 = .ok (.getfield 103, 3) := by decide +kernel
theorem dX0_putToOffice_4 : decode cX0_putToOffice 4 = .ok (.aload_n 0, 1) := by decide +kernel
theorem dX0_putToOffice_5 : decode cX0_putToOffice 5 = .ok (.getfield 38, 3) := by decide +kernel
theorem dX0_putToOffice_8 : decode cX0_putToOffice 8 = .ok (.aload_n 0, 1) := by decide +kernel
theorem dX0_putToOffice_9 : decode cX0_putToOffice 9 = .ok (.aload_n 1, 1) := by decide +kernel
theorem dX0_putToOffice_10 : decode cX0_putToOffice 10 = .ok (.invokevirtual 70, 3) := by decide +kernel
theorem dX0_putToOffice_13 : decode cX0_putToOffice 13 = .ok (.getfield 74, 3) := by decide +kernel
theorem dX0_putToOffice_16 : decode cX0_putToOffice 16 = .ok (.iadd, 1) := by decide +kernel
theorem dX0_putToOffice_17 : decode cX0_putToOffice 17 = .ok (.invokevirtual 179, 3) := by decide +kernel
theorem dX0_putToOffice_20 : decode cX0_putToOffice 20 = .ok (.aload_n 0, 1) := by decide +kernel
theorem dX0_putToOffice_21 : decode cX0_putToOffice 21 = .ok (.aload_n 1, 1) := by decide +kernel
theorem dX0_putToOffice_22 : decode cX0_putToOffice 22 = .ok (.bipush 97, 2) := by decide +kernel
theorem dX0_putToOffice_24 : decode cX0_putToOffice 24 = .ok (.invokevirtual 99, 3) := by decide +kernel
theorem dX0_putToOffice_27 : decode cX0_putToOffice 27 = .ok (.pop, 1) := by decide +kernel
theorem dX0_putToOffice_28 : decode cX0_putToOffice 28 = .ok (.aload_n 1, 1) := by decide +kernel
theorem dX0_putToOffice_29 : decode cX0_putToOffice 29 = .ok (.getfield 103, 3) := by decide +kernel
theorem dX0_putToOffice_32 : decode cX0_putToOffice 32 = .ok (.getfield 107, 3) := by decide +kernel
theorem dX0_putToOffice_35 : decode cX0_putToOffice 35 = .ok (.ireturn, 1) := by decide +kernel
theorem dX0_giveTime_0 : decode cX0_giveTime 0 = .ok (.aload_n 1, 1) := by decide +kernel
theorem dX0_giveTime_1 : decode cX0_giveTime 1 = .ok (.getfield 103, 3) := by decide +kernel
theorem dX0_giveTime_4 : decode cX0_giveTime 4 = .ok (.iconst 1, 1) := by decide +kernel
theorem dX0_giveTime_5 : decode cX0_giveTime 5 = .ok (.putfield 181, 3) := by decide +kernel
theorem dX0_giveTime_8 : decode cX0_giveTime 8 = .ok (.aload_n 1, 1) := by decide +kernel
theorem dX0_giveTime_9 : decode cX0_giveTime 9 = .ok (.getfield 103, 3) := by decide +kernel
theorem dX0_giveTime_12 : decode cX0_giveTime 12 = .ok (.dup, 1) := by decide +kernel
theorem dX0_giveTime_13 : decode cX0_giveTime 13 = .ok (.getfield 107, 3) := by decide +kernel
theorem dX0_giveTime_16 : decode cX0_giveTime 16 = .ok (.iload_n 2, 1) := by decide +kernel
theorem dX0_giveTime_17 : decode cX0_giveTime 17 = .ok (.iadd, 1) := by decide +kernel
theorem dX0_giveTime_18 : decode cX0_giveTime 18 = .ok (.putfield 107, 3) := by decide +kernel
theorem dX0_giveTime_21 : decode cX0_giveTime 21 = .ok (.aload_n 1, 1) := by decide +kernel
theorem dX0_giveTime_22 : decode cX0_giveTime 22 = .ok (.getfield 103, 3) := by decide +kernel
theorem dX0_giveTime_25 : decode cX0_giveTime 25 = .ok (.getfield 107, 3) := by decide +kernel
theorem dX0_giveTime_28 : decode cX0_giveTime 28 = .ok (.ireturn, 1) := by decide +kernel
theorem dX0_urge_0 : decode cX0_urge 0 = .ok (.aload_n 1, 1) := by decide +kernel
theorem dX0_urge_1 : decode cX0_urge 1 = .ok (.getfield 103, 3) := by decide +kernel
theorem dX0_urge_4 : decode cX0_urge 4 = .ok (.dup, 1) := by decide +kernel
theorem dX0_urge_5 : decode cX0_urge 5 = .ok (.getfield 184, 3) := by decide +kernel
theorem dX0_urge_8 : decode cX0_urge 8 = .ok (.iconst 1, 1) := by decide +kernel
theorem dX0_urge_9 : decode cX0_urge 9 = .ok (.iadd, 1) := by decide +kernel
theorem dX0_urge_10 : decode cX0_urge 10 = .ok (.putfield 184, 3) := by decide +kernel
theorem dX0_urge_13 : decode cX0_urge 13 = .ok (.aload_n 1, 1) := by decide +kernel
theorem dX0_urge_14 : decode cX0_urge 14 = .ok (.getfield 103, 3) := by decide +kernel
theorem dX0_urge_17 : decode cX0_urge 17 = .ok (.aload_n 0, 1) := by decide +kernel
theorem dX0_urge_18 : decode cX0_urge 18 = .ok (.getfield 38, 3) := by decide +kernel
theorem dX0_urge_21 : decode cX0_urge 21 = .ok (.bipush 7, 2) := by decide +kernel
theorem dX0_urge_23 : decode cX0_urge 23 = .ok (.iadd, 1) := by decide +kernel
theorem dX0_urge_24 : decode cX0_urge 24 = .ok (.putfield 107, 3) := by decide +kernel
theorem dX0_urge_27 : decode cX0_urge 27 = .ok (.aload_n 1, 1) := by decide +kernel
theorem dX0_urge_28 : decode cX0_urge 28 = .ok (.getfield 103, 3) := by decide +kernel
theorem dX0_urge_31 : decode cX0_urge 31 = .ok (.getfield 184, 3) := by decide +kernel
theorem dX0_urge_34 : decode cX0_urge 34 = .ok (.ireturn, 1) := by decide +kernel
theorem dX0_putBehind_0 : decode cX0_putBehind 0 = .ok (.iload_n 2, 1) := by decide +kernel
theorem dX0_putBehind_1 : decode cX0_putBehind 1 = .ok (.ifCond .lt 11, 3) := by decide +kernel
theorem dX0_putBehind_4 : decode cX0_putBehind 4 = .ok (.iload_n 2, 1) := by decide +kernel
theorem dX0_putBehind_5 : decode cX0_putBehind 5 = .ok (.aload_n 0, 1) := by decide +kernel
theorem dX0_putBehind_6 : decode cX0_putBehind 6 = .ok (.getfield 35, 3) := by decide +kernel
theorem dX0_putBehind_9 : decode cX0_putBehind 9 = .ok (.if_icmp .lt 5, 3) := by decide +kernel
theorem dX0_putBehind_12 : decode cX0_putBehind 12 = .ok (.iconst (-1), 1) := by decide +kernel
theorem dX0_putBehind_13 : decode cX0_putBehind 13 = .ok (.ireturn, 1) := by decide +kernel
theorem dX0_putBehind_14 : decode cX0_putBehind 14 = .ok (.aload_n 0, 1) := by decide +kernel
theorem dX0_putBehind_15 : decode cX0_putBehind 15 = .ok (.getfield 19, 3) := by decide +kernel
theorem dX0_putBehind_18 : decode cX0_putBehind 18 = .ok (.iload_n 2, 1) := by decide +kernel
theorem dX0_putBehind_19 : decode cX0_putBehind 19 = .ok (.aaload, 1) := by decide +kernel
theorem dX0_putBehind_20 : decode cX0_putBehind 20 = .ok (.astore_n 3, 1) := by decide +kernel
theorem dX0_putBehind_21 : decode cX0_putBehind 21 = .ok (.aload_n 1, 1) := by decide +kernel
theorem dX0_putBehind_22 : decode cX0_putBehind 22 = .ok (.iload_n 2, 1) := by decide +kernel
theorem dX0_putBehind_23 : decode cX0_putBehind 23 = .ok (.putfield 187, 3) := by decide +kernel
theorem dX0_putBehind_26 : decode cX0_putBehind 26 = .ok (.aload_n 1, 1) := by decide +kernel
theorem dX0_putBehind_27 : decode cX0_putBehind 27 = .ok (.aload_n 3, 1) := by decide +kernel
theorem dX0_putBehind_28 : decode cX0_putBehind 28 = .ok (.getfield 85, 3) := by decide +kernel
theorem dX0_putBehind_31 : decode cX0_putBehind 31 = .ok (.aload_n 0, 1) := by decide +kernel
theorem dX0_putBehind_32 : decode cX0_putBehind 32 = .ok (.getfield 38, 3) := by decide +kernel
theorem dX0_putBehind_35 : decode cX0_putBehind 35 = .ok (.invokevirtual 81, 3) := by decide +kernel
theorem dX0_putBehind_38 : decode cX0_putBehind 38 = .ok (.aload_n 0, 1) := by decide +kernel
theorem dX0_putBehind_39 : decode cX0_putBehind 39 = .ok (.aload_n 3, 1) := by decide +kernel
theorem dX0_putBehind_40 : decode cX0_putBehind 40 = .ok (.invokevirtual 190, 3) := by decide +kernel
theorem dX0_putBehind_43 : decode cX0_putBehind 43 = .ok (.ireturn, 1) := by decide +kernel
theorem dX0_setFree_0 : decode cX0_setFree 0 = .ok (.aload_n 1, 1) := by decide +kernel
theorem dX0_setFree_1 : decode cX0_setFree 1 = .ok (.getfield 187, 3) := by decide +kernel
theorem dX0_setFree_4 : decode cX0_setFree 4 = .ok (.istore_n 2, 1) := by decide +kernel
theorem dX0_setFree_5 : decode cX0_setFree 5 = .ok (.aload_n 1, 1) := by decide +kernel
theorem dX0_setFree_6 : decode cX0_setFree 6 = .ok (.aload_n 1, 1) := by decide +kernel
theorem dX0_setFree_7 : decode cX0_setFree 7 = .ok (.getfield 193, 3) := by decide +kernel
theorem dX0_setFree_10 : decode cX0_setFree 10 = .ok (.putfield 187, 3) := by decide +kernel
theorem dX0_setFree_13 : decode cX0_setFree 13 = .ok (.aload_n 1, 1) := by decide +kernel
theorem dX0_setFree_14 : decode cX0_setFree 14 = .ok (.bipush 114, 2) := by decide +kernel
theorem dX0_setFree_16 : decode cX0_setFree 16 = .ok (.aload_n 0, 1) := by decide +kernel
theorem dX0_setFree_17 : decode cX0_setFree 17 = .ok (.getfield 38, 3) := by decide +kernel
theorem dX0_setFree_20 : decode cX0_setFree 20 = .ok (.invokevirtual 81, 3) := by decide +kernel
theorem dX0_setFree_23 : decode cX0_setFree 23 = .ok (.iload_n 2, 1) := by decide +kernel
theorem dX0_setFree_24 : decode cX0_setFree 24 = .ok (.ireturn, 1) := by decide +kernel
theorem dX0_conclude_0 : decode cX0_conclude 0 = .ok (.aload_n 1, 1) := by decide +kernel
theorem dX0_conclude_1 : decode cX0_conclude 1 = .ok (.getfield 103, 3) := by decide +kernel
theorem dX0_conclude_4 : decode cX0_conclude 4 = .ok (.getfield 117, 3) := by decide +kernel
theorem dX0_conclude_7 : decode cX0_conclude 7 = .ok (.ifCond .eq 9, 3) := by decide +kernel
theorem dX0_conclude_10 : decode cX0_conclude 10 = .ok (.iload_n 2, 1) := by decide +kernel
theorem dX0_conclude_11 : decode cX0_conclude 11 = .ok (.iconst 1, 1) := by decide +kernel
theorem dX0_conclude_12 : decode cX0_conclude 12 = .ok (.ior, 1) := by decide +kernel
theorem dX0_conclude_13 : decode cX0_conclude 13 = .ok (.goto 4, 3) := by decide +kernel
theorem dX0_conclude_16 : decode cX0_conclude 16 = .ok (.iload_n 2, 1) := by decide +kernel
theorem dX0_conclude_17 : decode cX0_conclude 17 = .ok (.istore_n 3, 1) := by decide +kernel
theorem dX0_conclude_18 : decode cX0_conclude 18 = .ok (.aload_n 1, 1) := by decide +kernel
theorem dX0_conclude_19 : decode cX0_conclude 19 = .ok (.getfield 130, 3) := by decide +kernel
theorem dX0_conclude_22 : decode cX0_conclude 22 = .ok (.iload_n 3, 1) := by decide +kernel
theorem dX0_conclude_23 : decode cX0_conclude 23 = .ok (.invokevirtual 196, 3) := by decide +kernel
theorem dX0_conclude_26 : decode cX0_conclude 26 = .ok (.iload_n 3, 1) := by decide +kernel
theorem dX0_conclude_27 : decode cX0_conclude 27 = .ok (.ifCond .ne 13, 3) := by decide +kernel
theorem dX0_conclude_30 : decode cX0_conclude 30 = .ok (.aload_n 0, 1) := by decide +kernel
theorem dX0_conclude_31 : decode cX0_conclude 31 = .ok (.aload_n 1, 1) := by decide +kernel
theorem dX0_conclude_32 : decode cX0_conclude 32 = .ok (.bipush 117, 2) := by decide +kernel
theorem dX0_conclude_34 : decode cX0_conclude 34 = .ok (.invokevirtual 99, 3) := by decide +kernel
theorem dX0_conclude_37 : decode cX0_conclude 37 = .ok (.pop, 1) := by decide +kernel
theorem dX0_conclude_38 : decode cX0_conclude 38 = .ok (.iconst 0, 1) := by decide +kernel
theorem dX0_conclude_39 : decode cX0_conclude 39 = .ok (.ireturn, 1) := by decide +kernel
theorem dX0_conclude_40 : decode cX0_conclude 40 = .ok (.aload_n 0, 1) := by decide +kernel
theorem dX0_conclude_41 : decode cX0_conclude 41 = .ok (.iload_n 3, 1) := by decide +kernel
theorem dX0_conclude_42 : decode cX0_conclude 42 = .ok (.invokevirtual 197, 3) := by decide +kernel
theorem dX0_conclude_45 : decode cX0_conclude 45 = .ok (.aload_n 0, 1) := by decide +kernel
theorem dX0_conclude_46 : decode cX0_conclude 46 = .ok (.aload_n 1, 1) := by decide +kernel
theorem dX0_conclude_47 : decode cX0_conclude 47 = .ok (.invokevirtual 190, 3) := by decide +kernel
theorem dX0_conclude_50 : decode cX0_conclude 50 = .ok (.iconst 5, 1) := by decide +kernel
theorem dX0_conclude_51 : decode cX0_conclude 51 = .ok (.invokestatic 201, 3) := by decide +kernel
theorem dX0_conclude_54 : decode cX0_conclude 54 = .ok (.iadd, 1) := by decide +kernel
theorem dX0_conclude_55 : decode cX0_conclude 55 = .ok (.istore 4, 2) := by decide +kernel
theorem dX0_conclude_57 : decode cX0_conclude 57 = .ok (.aload_n 1, 1) := by decide +kernel
theorem dX0_conclude_58 : decode cX0_conclude 58 = .ok (.getfield 130, 3) := by decide +kernel
theorem dX0_conclude_61 : decode cX0_conclude 61 = .ok (.iload 4, 2) := by decide +kernel
theorem dX0_conclude_63 : decode cX0_conclude 63 = .ok (.invokestatic 204, 3) := by decide +kernel
theorem dX0_conclude_66 : decode cX0_conclude 66 = .ok (.aload_n 0, 1) := by decide +kernel
theorem dX0_conclude_67 : decode cX0_conclude 67 = .ok (.getfield 38, 3) := by decide +kernel
theorem dX0_conclude_70 : decode cX0_conclude 70 = .ok (.invokevirtual 207, 3) := by decide +kernel
theorem dX0_conclude_73 : decode cX0_conclude 73 = .ok (.aload_n 0, 1) := by decide +kernel
theorem dX0_conclude_74 : decode cX0_conclude 74 = .ok (.aload_n 1, 1) := by decide +kernel
theorem dX0_conclude_75 : decode cX0_conclude 75 = .ok (.invokevirtual 70, 3) := by decide +kernel
theorem dX0_conclude_78 : decode cX0_conclude 78 = .ok (.dup, 1) := by decide +kernel
theorem dX0_conclude_79 : decode cX0_conclude 79 = .ok (.getfield 210, 3) := by decide +kernel
theorem dX0_conclude_82 : decode cX0_conclude 82 = .ok (.aload_n 0, 1) := by decide +kernel
theorem dX0_conclude_83 : decode cX0_conclude 83 = .ok (.aload_n 1, 1) := by decide +kernel
theorem dX0_conclude_84 : decode cX0_conclude 84 = .ok (.bipush 100, 2) := by decide +kernel
theorem dX0_conclude_86 : decode cX0_conclude 86 = .ok (.invokevirtual 99, 3) := by decide +kernel
theorem dX0_conclude_89 : decode cX0_conclude 89 = .ok (.iadd, 1) := by decide +kernel
theorem dX0_conclude_90 : decode cX0_conclude 90 = .ok (.putfield 210, 3) := by decide +kernel
theorem dX0_conclude_93 : decode cX0_conclude 93 = .ok (.aload_n 1, 1) := by decide +kernel
theorem dX0_conclude_94 : decode cX0_conclude 94 = .ok (.getfield 130, 3) := by decide +kernel
theorem dX0_conclude_97 : decode cX0_conclude 97 = .ok (.getfield 213, 3) := by decide +kernel
theorem dX0_conclude_100 : decode cX0_conclude 100 = .ok (.ireturn, 1) := by decide +kernel
theorem dX0_insist_0 : decode cX0_insist 0 = .ok (.aload_n 1, 1) := by decide +kernel
theorem dX0_insist_1 : decode cX0_insist 1 = .ok (.getfield 130, 3) := by decide +kernel
theorem dX0_insist_4 : decode cX0_insist 4 = .ok (.getfield 216, 3) := by decide +kernel
theorem dX0_insist_7 : decode cX0_insist 7 = .ok (.ifCond .eq 13, 3) := by decide +kernel
theorem dX0_insist_10 : decode cX0_insist 10 = .ok (.aload_n 0, 1) := by decide +kernel
theorem dX0_insist_11 : decode cX0_insist 11 = .ok (.aload_n 1, 1) := by decide +kernel
theorem dX0_insist_12 : decode cX0_insist 12 = .ok (.bipush 105, 2) := by decide +kernel
theorem dX0_insist_14 : decode cX0_insist 14 = .ok (.invokevirtual 99, 3) := by decide +kernel
theorem dX0_insist_17 : decode cX0_insist 17 = .ok (.pop, 1) := by decide +kernel
theorem dX0_insist_18 : decode cX0_insist 18 = .ok (.iconst 0, 1) := by decide +kernel
theorem dX0_insist_19 : decode cX0_insist 19 = .ok (.ireturn, 1) := by decide +kernel
theorem dX0_insist_20 : decode cX0_insist 20 = .ok (.aload_n 1, 1) := by decide +kernel
theorem dX0_insist_21 : decode cX0_insist 21 = .ok (.getfield 130, 3) := by decide +kernel
theorem dX0_insist_24 : decode cX0_insist 24 = .ok (.iconst 1, 1) := by decide +kernel
theorem dX0_insist_25 : decode cX0_insist 25 = .ok (.putfield 216, 3) := by decide +kernel
theorem dX0_insist_28 : decode cX0_insist 28 = .ok (.aload_n 1, 1) := by decide +kernel
theorem dX0_insist_29 : decode cX0_insist 29 = .ok (.getfield 130, 3) := by decide +kernel
theorem dX0_insist_32 : decode cX0_insist 32 = .ok (.aload_n 1, 1) := by decide +kernel
theorem dX0_insist_33 : decode cX0_insist 33 = .ok (.getfield 130, 3) := by decide +kernel
theorem dX0_insist_36 : decode cX0_insist 36 = .ok (.getfield 213, 3) := by decide +kernel
theorem dX0_insist_39 : decode cX0_insist 39 = .ok (.iconst 1, 1) := by decide +kernel
theorem dX0_insist_40 : decode cX0_insist 40 = .ok (.iadd, 1) := by decide +kernel
theorem dX0_insist_41 : decode cX0_insist 41 = .ok (.iconst 4, 1) := by decide +kernel
theorem dX0_insist_42 : decode cX0_insist 42 = .ok (.invokestatic 201, 3) := by decide +kernel
theorem dX0_insist_45 : decode cX0_insist 45 = .ok (.aload_n 0, 1) := by decide +kernel
theorem dX0_insist_46 : decode cX0_insist 46 = .ok (.getfield 38, 3) := by decide +kernel
theorem dX0_insist_49 : decode cX0_insist 49 = .ok (.invokevirtual 207, 3) := by decide +kernel
theorem dX0_insist_52 : decode cX0_insist 52 = .ok (.aload_n 1, 1) := by decide +kernel
theorem dX0_insist_53 : decode cX0_insist 53 = .ok (.getfield 130, 3) := by decide +kernel
theorem dX0_insist_56 : decode cX0_insist 56 = .ok (.getfield 213, 3) := by decide +kernel
theorem dX0_insist_59 : decode cX0_insist 59 = .ok (.ireturn, 1) := by decide +kernel
theorem dX0_takeBack_0 : decode cX0_takeBack 0 = .ok (.iconst 0, 1) := by decide +kernel
theorem dX0_takeBack_1 : decode cX0_takeBack 1 = .ok (.istore_n 2, 1) := by decide +kernel
theorem dX0_takeBack_2 : decode cX0_takeBack 2 = .ok (.iconst 0, 1) := by decide +kernel
theorem dX0_takeBack_3 : decode cX0_takeBack 3 = .ok (.istore_n 3, 1) := by decide +kernel
theorem dX0_takeBack_4 : decode cX0_takeBack 4 = .ok (.iload_n 3, 1) := by decide +kernel
theorem dX0_takeBack_5 : decode cX0_takeBack 5 = .ok (.aload_n 0, 1) := by decide +kernel
theorem dX0_takeBack_6 : decode cX0_takeBack 6 = .ok (.getfield 35, 3) := by decide +kernel
theorem dX0_takeBack_9 : decode cX0_takeBack 9 = .ok (.if_icmp .ge 61, 3) := by decide +kernel
theorem dX0_takeBack_12 : decode cX0_takeBack 12 = .ok (.iload_n 3, 1) := by decide +kernel
theorem dX0_takeBack_13 : decode cX0_takeBack 13 = .ok (.aload_n 1, 1) := by decide +kernel
theorem dX0_takeBack_14 : decode cX0_takeBack 14 = .ok (.getfield 193, 3) := by decide +kernel
theorem dX0_takeBack_17 : decode cX0_takeBack 17 = .ok (.if_icmp .eq 47, 3) := by decide +kernel
theorem dX0_takeBack_20 : decode cX0_takeBack 20 = .ok (.aload_n 0, 1) := by decide +kernel
theorem dX0_takeBack_21 : decode cX0_takeBack 21 = .ok (.getfield 19, 3) := by decide +kernel
theorem dX0_takeBack_24 : decode cX0_takeBack 24 = .ok (.iload_n 3, 1) := by decide +kernel
theorem dX0_takeBack_25 : decode cX0_takeBack 25 = .ok (.aaload, 1) := by decide +kernel
theorem dX0_takeBack_26 : decode cX0_takeBack 26 = .ok (.getfield 187, 3) := by decide +kernel
theorem dX0_takeBack_29 : decode cX0_takeBack 29 = .ok (.aload_n 1, 1) := by decide +kernel
theorem dX0_takeBack_30 : decode cX0_takeBack 30 = .ok (.getfield 193, 3) := by decide +kernel
theorem dX0_takeBack_33 : decode cX0_takeBack 33 = .ok (.if_icmp .ne 31, 3) := by decide +kernel
theorem dX0_takeBack_36 : decode cX0_takeBack 36 = .ok (.aload_n 0, 1) := by decide +kernel
theorem dX0_takeBack_37 : decode cX0_takeBack 37 = .ok (.getfield 19, 3) := by decide +kernel
theorem dX0_takeBack_40 : decode cX0_takeBack 40 = .ok (.iload_n 3, 1) := by decide +kernel
theorem dX0_takeBack_41 : decode cX0_takeBack 41 = .ok (.aaload, 1) := by decide +kernel
theorem dX0_takeBack_42 : decode cX0_takeBack 42 = .ok (.iload_n 3, 1) := by decide +kernel
theorem dX0_takeBack_43 : decode cX0_takeBack 43 = .ok (.putfield 187, 3) := by decide +kernel
theorem dX0_takeBack_46 : decode cX0_takeBack 46 = .ok (.aload_n 0, 1) := by decide +kernel
theorem dX0_takeBack_47 : decode cX0_takeBack 47 = .ok (.getfield 19, 3) := by decide +kernel
theorem dX0_takeBack_50 : decode cX0_takeBack 50 = .ok (.iload_n 3, 1) := by decide +kernel
theorem dX0_takeBack_51 : decode cX0_takeBack 51 = .ok (.aaload, 1) := by decide +kernel
theorem dX0_takeBack_52 : decode cX0_takeBack 52 = .ok (.bipush 114, 2) := by decide +kernel
theorem dX0_takeBack_54 : decode cX0_takeBack 54 = .ok (.aload_n 0, 1) := by decide +kernel
theorem dX0_takeBack_55 : decode cX0_takeBack 55 = .ok (.getfield 38, 3) := by decide +kernel
theorem dX0_takeBack_58 : decode cX0_takeBack 58 = .ok (.invokevirtual 81, 3) := by decide +kernel
theorem dX0_takeBack_61 : decode cX0_takeBack 61 = .ok (.iinc 2 1, 3) := by decide +kernel
theorem dX0_takeBack_64 : decode cX0_takeBack 64 = .ok (.iinc 3 1, 3) := by decide +kernel
theorem dX0_takeBack_67 : decode cX0_takeBack 67 = .ok (.goto (-63), 3) := by decide +kernel
theorem dX0_takeBack_70 : decode cX0_takeBack 70 = .ok (.aload_n 1, 1) := by decide +kernel
theorem dX0_takeBack_71 : decode cX0_takeBack 71 = .ok (.bipush 119, 2) := by decide +kernel
theorem dX0_takeBack_73 : decode cX0_takeBack 73 = .ok (.aload_n 0, 1) := by decide +kernel
theorem dX0_takeBack_74 : decode cX0_takeBack 74 = .ok (.getfield 38, 3) := by decide +kernel
theorem dX0_takeBack_77 : decode cX0_takeBack 77 = .ok (.invokevirtual 81, 3) := by decide +kernel
theorem dX0_takeBack_80 : decode cX0_takeBack 80 = .ok (.iload_n 2, 1) := by decide +kernel
theorem dX0_takeBack_81 : decode cX0_takeBack 81 = .ok (.ireturn, 1) := by decide +kernel
theorem dX0_moveAll_0 : decode cX0_moveAll 0 = .ok (.iconst 0, 1) := by decide +kernel
theorem dX0_moveAll_1 : decode cX0_moveAll 1 = .ok (.istore_n 3, 1) := by decide +kernel
theorem dX0_moveAll_2 : decode cX0_moveAll 2 = .ok (.iconst 0, 1) := by decide +kernel
theorem dX0_moveAll_3 : decode cX0_moveAll 3 = .ok (.istore 4, 2) := by decide +kernel
theorem dX0_moveAll_5 : decode cX0_moveAll 5 = .ok (.iload 4, 2) := by decide +kernel
theorem dX0_moveAll_7 : decode cX0_moveAll 7 = .ok (.aload_n 0, 1) := by decide +kernel
theorem dX0_moveAll_8 : decode cX0_moveAll 8 = .ok (.getfield 35, 3) := by decide +kernel
theorem dX0_moveAll_11 : decode cX0_moveAll 11 = .ok (.if_icmp .ge 44, 3) := by decide +kernel
theorem dX0_moveAll_14 : decode cX0_moveAll 14 = .ok (.aload_n 0, 1) := by decide +kernel
theorem dX0_moveAll_15 : decode cX0_moveAll 15 = .ok (.getfield 19, 3) := by decide +kernel
theorem dX0_moveAll_18 : decode cX0_moveAll 18 = .ok (.iload 4, 2) := by decide +kernel
theorem dX0_moveAll_20 : decode cX0_moveAll 20 = .ok (.aaload, 1) := by decide +kernel
theorem dX0_moveAll_21 : decode cX0_moveAll 21 = .ok (.getfield 187, 3) := by decide +kernel
theorem dX0_moveAll_24 : decode cX0_moveAll 24 = .ok (.aload_n 1, 1) := by decide +kernel
theorem dX0_moveAll_25 : decode cX0_moveAll 25 = .ok (.getfield 193, 3) := by decide +kernel
theorem dX0_moveAll_28 : decode cX0_moveAll 28 = .ok (.if_icmp .ne 21, 3) := by decide +kernel
theorem dX0_moveAll_31 : decode cX0_moveAll 31 = .ok (.aload_n 0, 1) := by decide +kernel
theorem dX0_moveAll_32 : decode cX0_moveAll 32 = .ok (.getfield 19, 3) := by decide +kernel
theorem dX0_moveAll_35 : decode cX0_moveAll 35 = .ok (.iload 4, 2) := by decide +kernel
theorem dX0_moveAll_37 : decode cX0_moveAll 37 = .ok (.aaload, 1) := by decide +kernel
theorem dX0_moveAll_38 : decode cX0_moveAll 38 = .ok (.iload_n 2, 1) := by decide +kernel
theorem dX0_moveAll_39 : decode cX0_moveAll 39 = .ok (.aload_n 0, 1) := by decide +kernel
theorem dX0_moveAll_40 : decode cX0_moveAll 40 = .ok (.getfield 38, 3) := by decide +kernel
theorem dX0_moveAll_43 : decode cX0_moveAll 43 = .ok (.invokevirtual 81, 3) := by decide +kernel
theorem dX0_moveAll_46 : decode cX0_moveAll 46 = .ok (.iinc 3 1, 3) := by decide +kernel
theorem dX0_moveAll_49 : decode cX0_moveAll 49 = .ok (.iinc 4 1, 3) := by decide +kernel
theorem dX0_moveAll_52 : decode cX0_moveAll 52 = .ok (.goto (-47), 3) := by decide +kernel
theorem dX0_moveAll_55 : decode cX0_moveAll 55 = .ok (.iload_n 3, 1) := by decide +kernel
theorem dX0_moveAll_56 : decode cX0_moveAll 56 = .ok (.ireturn, 1) := by decide +kernel
theorem dX0_leadOf_0 : decode cX0_leadOf 0 = .ok (.aload_n 1, 1) := by decide +kernel
theorem dX0_leadOf_1 : decode cX0_leadOf 1 = .ok (.getfield 187, 3) := by decide +kernel
theorem dX0_leadOf_4 : decode cX0_leadOf 4 = .ok (.ifCond .lt 26, 3) := by decide +kernel
theorem dX0_leadOf_7 : decode cX0_leadOf 7 = .ok (.aload_n 1, 1) := by decide +kernel
theorem dX0_leadOf_8 : decode cX0_leadOf 8 = .ok (.getfield 187, 3) := by decide +kernel
theorem dX0_leadOf_11 : decode cX0_leadOf 11 = .ok (.aload_n 0, 1) := by decide +kernel
theorem dX0_leadOf_12 : decode cX0_leadOf 12 = .ok (.getfield 35, 3) := by decide +kernel
theorem dX0_leadOf_15 : decode cX0_leadOf 15 = .ok (.if_icmp .ge 15, 3) := by decide +kernel
theorem dX0_leadOf_18 : decode cX0_leadOf 18 = .ok (.aload_n 0, 1) := by decide +kernel
theorem dX0_leadOf_19 : decode cX0_leadOf 19 = .ok (.getfield 19, 3) := by decide +kernel
theorem dX0_leadOf_22 : decode cX0_leadOf 22 = .ok (.aload_n 1, 1) := by decide +kernel
theorem dX0_leadOf_23 : decode cX0_leadOf 23 = .ok (.getfield 187, 3) := by decide +kernel
theorem dX0_leadOf_26 : decode cX0_leadOf 26 = .ok (.aaload, 1) := by decide +kernel
theorem dX0_leadOf_27 : decode cX0_leadOf 27 = .ok (.goto 4, 3) := by decide +kernel
theorem dX0_leadOf_30 : decode cX0_leadOf 30 = .ok (.aload_n 1, 1) := by decide +kernel
theorem dX0_leadOf_31 : decode cX0_leadOf 31 = .ok (.areturn, 1) := by decide +kernel
theorem dX0_officeOf_0 : decode cX0_officeOf 0 = .ok (.aload_n 1, 1) := by decide +kernel
theorem dX0_officeOf_1 : decode cX0_officeOf 1 = .ok (.getfield 219, 3) := by decide +kernel
theorem dX0_officeOf_4 : decode cX0_officeOf 4 = .ok (.ifCond .lt 26, 3) := by decide +kernel
theorem dX0_officeOf_7 : decode cX0_officeOf 7 = .ok (.aload_n 1, 1) := by decide +kernel
theorem dX0_officeOf_8 : decode cX0_officeOf 8 = .ok (.getfield 219, 3) := by decide +kernel
theorem dX0_officeOf_11 : decode cX0_officeOf 11 = .ok (.aload_n 0, 1) := by decide +kernel
theorem dX0_officeOf_12 : decode cX0_officeOf 12 = .ok (.getfield 31, 3) := by decide +kernel
theorem dX0_officeOf_15 : decode cX0_officeOf 15 = .ok (.if_icmp .ge 15, 3) := by decide +kernel
theorem dX0_officeOf_18 : decode cX0_officeOf 18 = .ok (.aload_n 0, 1) := by decide +kernel
theorem dX0_officeOf_19 : decode cX0_officeOf 19 = .ok (.getfield 11, 3) := by decide +kernel
theorem dX0_officeOf_22 : decode cX0_officeOf 22 = .ok (.aload_n 1, 1) := by decide +kernel
theorem dX0_officeOf_23 : decode cX0_officeOf 23 = .ok (.getfield 219, 3) := by decide +kernel
theorem dX0_officeOf_26 : decode cX0_officeOf 26 = .ok (.aaload, 1) := by decide +kernel
theorem dX0_officeOf_27 : decode cX0_officeOf 27 = .ok (.goto 9, 3) := by decide +kernel
theorem dX0_officeOf_30 : decode cX0_officeOf 30 = .ok (.aload_n 0, 1) := by decide +kernel
theorem dX0_officeOf_31 : decode cX0_officeOf 31 = .ok (.getfield 11, 3) := by decide +kernel
theorem dX0_officeOf_34 : decode cX0_officeOf 34 = .ok (.iconst 0, 1) := by decide +kernel
theorem dX0_officeOf_35 : decode cX0_officeOf 35 = .ok (.aaload, 1) := by decide +kernel
theorem dX0_officeOf_36 : decode cX0_officeOf 36 = .ok (.areturn, 1) := by decide +kernel
theorem dX0_followersOf_0 : decode cX0_followersOf 0 = .ok (.iconst 0, 1) := by decide +kernel
theorem dX0_followersOf_1 : decode cX0_followersOf 1 = .ok (.istore_n 2, 1) := by decide +kernel
theorem dX0_followersOf_2 : decode cX0_followersOf 2 = .ok (.iconst 0, 1) := by decide +kernel
theorem dX0_followersOf_3 : decode cX0_followersOf 3 = .ok (.istore_n 3, 1) := by decide +kernel
theorem dX0_followersOf_4 : decode cX0_followersOf 4 = .ok (.iload_n 3, 1) := by decide +kernel
theorem dX0_followersOf_5 : decode cX0_followersOf 5 = .ok (.aload_n 0, 1) := by decide +kernel
theorem dX0_followersOf_6 : decode cX0_followersOf 6 = .ok (.getfield 35, 3) := by decide +kernel
theorem dX0_followersOf_9 : decode cX0_followersOf 9 = .ok (.if_icmp .ge 36, 3) := by decide +kernel
theorem dX0_followersOf_12 : decode cX0_followersOf 12 = .ok (.iload_n 3, 1) := by decide +kernel
theorem dX0_followersOf_13 : decode cX0_followersOf 13 = .ok (.aload_n 1, 1) := by decide +kernel
theorem dX0_followersOf_14 : decode cX0_followersOf 14 = .ok (.getfield 193, 3) := by decide +kernel
theorem dX0_followersOf_17 : decode cX0_followersOf 17 = .ok (.if_icmp .eq 22, 3) := by decide +kernel
theorem dX0_followersOf_20 : decode cX0_followersOf 20 = .ok (.aload_n 0, 1) := by decide +kernel
theorem dX0_followersOf_21 : decode cX0_followersOf 21 = .ok (.getfield 19, 3) := by decide +kernel
theorem dX0_followersOf_24 : decode cX0_followersOf 24 = .ok (.iload_n 3, 1) := by decide +kernel
theorem dX0_followersOf_25 : decode cX0_followersOf 25 = .ok (.aaload, 1) := by decide +kernel
theorem dX0_followersOf_26 : decode cX0_followersOf 26 = .ok (.getfield 187, 3) := by decide +kernel
theorem dX0_followersOf_29 : decode cX0_followersOf 29 = .ok (.aload_n 1, 1) := by decide +kernel
theorem dX0_followersOf_30 : decode cX0_followersOf 30 = .ok (.getfield 193, 3) := by decide +kernel
theorem dX0_followersOf_33 : decode cX0_followersOf 33 = .ok (.if_icmp .ne 6, 3) := by decide +kernel
theorem dX0_followersOf_36 : decode cX0_followersOf 36 = .ok (.iinc 2 1, 3) := by decide +kernel
theorem dX0_followersOf_39 : decode cX0_followersOf 39 = .ok (.iinc 3 1, 3) := by decide +kernel
theorem dX0_followersOf_42 : decode cX0_followersOf 42 = .ok (.goto (-38), 3) := by decide +kernel
theorem dX0_followersOf_45 : decode cX0_followersOf 45 = .ok (.iload_n 2, 1) := by decide +kernel
theorem dX0_followersOf_46 : decode cX0_followersOf 46 = .ok (.ireturn, 1) := by decide +kernel
theorem dX0_canFollow_0 : decode cX0_canFollow 0 = .ok (.aload_n 1, 1) := by decide +kernel
theorem dX0_canFollow_1 : decode cX0_canFollow 1 = .ok (.getfield 85, 3) := by decide +kernel
theorem dX0_canFollow_4 : decode cX0_canFollow 4 = .ok (.bipush 114, 2) := by decide +kernel
theorem dX0_canFollow_6 : decode cX0_canFollow 6 = .ok (.if_icmp .ne 78, 3) := by decide +kernel
theorem dX0_canFollow_9 : decode cX0_canFollow 9 = .ok (.aload_n 1, 1) := by decide +kernel
theorem dX0_canFollow_10 : decode cX0_canFollow 10 = .ok (.invokevirtual 222, 3) := by decide +kernel
theorem dX0_canFollow_13 : decode cX0_canFollow 13 = .ok (.ifCond .ne 71, 3) := by decide +kernel
theorem dX0_canFollow_16 : decode cX0_canFollow 16 = .ok (.aload_n 0, 1) := by decide +kernel
theorem dX0_canFollow_17 : decode cX0_canFollow 17 = .ok (.aload_n 1, 1) := by decide +kernel
theorem dX0_canFollow_18 : decode cX0_canFollow 18 = .ok (.invokevirtual 190, 3) := by decide +kernel
theorem dX0_canFollow_21 : decode cX0_canFollow 21 = .ok (.ifCond .ne 63, 3) := by decide +kernel
theorem dX0_canFollow_24 : decode cX0_canFollow 24 = .ok (.aload_n 1, 1) := by decide +kernel
theorem dX0_canFollow_25 : decode cX0_canFollow 25 = .ok (.getfield 219, 3) := by decide +kernel
theorem dX0_canFollow_28 : decode cX0_canFollow 28 = .ok (.aload_n 2, 1) := by decide +kernel
theorem dX0_canFollow_29 : decode cX0_canFollow 29 = .ok (.getfield 219, 3) := by decide +kernel
theorem dX0_canFollow_32 : decode cX0_canFollow 32 = .ok (.if_icmp .ne 52, 3) := by decide +kernel
theorem dX0_canFollow_35 : decode cX0_canFollow 35 = .ok (.aload_n 1, 1) := by decide +kernel
theorem dX0_canFollow_36 : decode cX0_canFollow 36 = .ok (.getfield 170, 3) := by decide +kernel
theorem dX0_canFollow_39 : decode cX0_canFollow 39 = .ok (.aload_n 2, 1) := by decide +kernel
theorem dX0_canFollow_40 : decode cX0_canFollow 40 = .ok (.getfield 170, 3) := by decide +kernel
theorem dX0_canFollow_43 : decode cX0_canFollow 43 = .ok (.if_icmp .ne 41, 3) := by decide +kernel
theorem dX0_canFollow_46 : decode cX0_canFollow 46 = .ok (.aload_n 2, 1) := by decide +kernel
theorem dX0_canFollow_47 : decode cX0_canFollow 47 = .ok (.invokevirtual 222, 3) := by decide +kernel
theorem dX0_canFollow_50 : decode cX0_canFollow 50 = .ok (.ifCond .ne 34, 3) := by decide +kernel
theorem dX0_canFollow_53 : decode cX0_canFollow 53 = .ok (.aload_n 2, 1) := by decide +kernel
theorem dX0_canFollow_54 : decode cX0_canFollow 54 = .ok (.getfield 85, 3) := by decide +kernel
theorem dX0_canFollow_57 : decode cX0_canFollow 57 = .ok (.bipush 114, 2) := by decide +kernel
theorem dX0_canFollow_59 : decode cX0_canFollow 59 = .ok (.if_icmp .eq 21, 3) := by decide +kernel
theorem dX0_canFollow_62 : decode cX0_canFollow 62 = .ok (.aload_n 2, 1) := by decide +kernel
theorem dX0_canFollow_63 : decode cX0_canFollow 63 = .ok (.getfield 85, 3) := by decide +kernel
theorem dX0_canFollow_66 : decode cX0_canFollow 66 = .ok (.bipush 97, 2) := by decide +kernel
theorem dX0_canFollow_68 : decode cX0_canFollow 68 = .ok (.if_icmp .eq 12, 3) := by decide +kernel
theorem dX0_canFollow_71 : decode cX0_canFollow 71 = .ok (.aload_n 2, 1) := by decide +kernel
theorem dX0_canFollow_72 : decode cX0_canFollow 72 = .ok (.getfield 85, 3) := by decide +kernel
theorem dX0_canFollow_75 : decode cX0_canFollow 75 = .ok (.bipush 115, 2) := by decide +kernel
theorem dX0_canFollow_77 : decode cX0_canFollow 77 = .ok (.if_icmp .ne 7, 3) := by decide +kernel
theorem dX0_canFollow_80 : decode cX0_canFollow 80 = .ok (.iconst 1, 1) := by decide +kernel
theorem dX0_canFollow_81 : decode cX0_canFollow 81 = .ok (.goto 4, 3) := by decide +kernel
theorem dX0_canFollow_84 : decode cX0_canFollow 84 = .ok (.iconst 0, 1) := by decide +kernel
theorem dX0_canFollow_85 : decode cX0_canFollow 85 = .ok (.ireturn, 1) := by decide +kernel
theorem dX0_lacksAnswer_0 : decode cX0_lacksAnswer 0 = .ok (.aload_n 1, 1) := by decide +kernel
theorem dX0_lacksAnswer_1 : decode cX0_lacksAnswer 1 = .ok (.getfield 85, 3) := by decide +kernel
theorem dX0_lacksAnswer_4 : decode cX0_lacksAnswer 4 = .ok (.bipush 97, 2) := by decide +kernel
theorem dX0_lacksAnswer_6 : decode cX0_lacksAnswer 6 = .ok (.if_icmp .ne 21, 3) := by decide +kernel
theorem dX0_lacksAnswer_9 : decode cX0_lacksAnswer 9 = .ok (.aload_n 0, 1) := by decide +kernel
theorem dX0_lacksAnswer_10 : decode cX0_lacksAnswer 10 = .ok (.getfield 38, 3) := by decide +kernel
theorem dX0_lacksAnswer_13 : decode cX0_lacksAnswer 13 = .ok (.aload_n 1, 1) := by decide +kernel
theorem dX0_lacksAnswer_14 : decode cX0_lacksAnswer 14 = .ok (.getfield 103, 3) := by decide +kernel
theorem dX0_lacksAnswer_17 : decode cX0_lacksAnswer 17 = .ok (.getfield 107, 3) := by decide +kernel
theorem dX0_lacksAnswer_20 : decode cX0_lacksAnswer 20 = .ok (.if_icmp .le 7, 3) := by decide +kernel
theorem dX0_lacksAnswer_23 : decode cX0_lacksAnswer 23 = .ok (.iconst 1, 1) := by decide +kernel
theorem dX0_lacksAnswer_24 : decode cX0_lacksAnswer 24 = .ok (.goto 4, 3) := by decide +kernel
theorem dX0_lacksAnswer_27 : decode cX0_lacksAnswer 27 = .ok (.iconst 0, 1) := by decide +kernel
theorem dX0_lacksAnswer_28 : decode cX0_lacksAnswer 28 = .ok (.ireturn, 1) := by decide +kernel
theorem dX0_weightOf_0 : decode cX0_weightOf 0 = .ok (.iconst 0, 1) := by decide +kernel
theorem dX0_weightOf_1 : decode cX0_weightOf 1 = .ok (.istore_n 2, 1) := by decide +kernel
theorem dX0_weightOf_2 : decode cX0_weightOf 2 = .ok (.iconst 0, 1) := by decide +kernel
theorem dX0_weightOf_3 : decode cX0_weightOf 3 = .ok (.istore_n 3, 1) := by decide +kernel
theorem dX0_weightOf_4 : decode cX0_weightOf 4 = .ok (.iload_n 3, 1) := by decide +kernel
theorem dX0_weightOf_5 : decode cX0_weightOf 5 = .ok (.iconst 5, 1) := by decide +kernel
theorem dX0_weightOf_6 : decode cX0_weightOf 6 = .ok (.if_icmp .ge 27, 3) := by decide +kernel
theorem dX0_weightOf_9 : decode cX0_weightOf 9 = .ok (.iload_n 1, 1) := by decide +kernel
theorem dX0_weightOf_10 : decode cX0_weightOf 10 = .ok (.iload_n 3, 1) := by decide +kernel
theorem dX0_weightOf_11 : decode cX0_weightOf 11 = .ok (.ishr, 1) := by decide +kernel
theorem dX0_weightOf_12 : decode cX0_weightOf 12 = .ok (.iconst 1, 1) := by decide +kernel
theorem dX0_weightOf_13 : decode cX0_weightOf 13 = .ok (.iand, 1) := by decide +kernel
theorem dX0_weightOf_14 : decode cX0_weightOf 14 = .ok (.iconst 1, 1) := by decide +kernel
theorem dX0_weightOf_15 : decode cX0_weightOf 15 = .ok (.if_icmp .ne 12, 3) := by decide +kernel
theorem dX0_weightOf_18 : decode cX0_weightOf 18 = .ok (.iload_n 2, 1) := by decide +kernel
theorem dX0_weightOf_19 : decode cX0_weightOf 19 = .ok (.aload_n 0, 1) := by decide +kernel
theorem dX0_weightOf_20 : decode cX0_weightOf 20 = .ok (.getfield 23, 3) := by decide +kernel
theorem dX0_weightOf_23 : decode cX0_weightOf 23 = .ok (.iload_n 3, 1) := by decide +kernel
theorem dX0_weightOf_24 : decode cX0_weightOf 24 = .ok (.iaload, 1) := by decide +kernel
theorem dX0_weightOf_25 : decode cX0_weightOf 25 = .ok (.iadd, 1) := by decide +kernel
theorem dX0_weightOf_26 : decode cX0_weightOf 26 = .ok (.istore_n 2, 1) := by decide +kernel
theorem dX0_weightOf_27 : decode cX0_weightOf 27 = .ok (.iinc 3 1, 3) := by decide +kernel
theorem dX0_weightOf_30 : decode cX0_weightOf 30 = .ok (.goto (-26), 3) := by decide +kernel
theorem dX0_weightOf_33 : decode cX0_weightOf 33 = .ok (.iload_n 2, 1) := by decide +kernel
theorem dX0_weightOf_34 : decode cX0_weightOf 34 = .ok (.ireturn, 1) := by decide +kernel
theorem dX0_earliestDue_0 : decode cX0_earliestDue 0 = .ok (.iconst (-1), 1) := by decide +kernel
theorem dX0_earliestDue_1 : decode cX0_earliestDue 1 = .ok (.istore_n 1, 1) := by decide +kernel
theorem dX0_earliestDue_2 : decode cX0_earliestDue 2 = .ok (.iconst 0, 1) := by decide +kernel
theorem dX0_earliestDue_3 : decode cX0_earliestDue 3 = .ok (.istore_n 2, 1) := by decide +kernel
theorem dX0_earliestDue_4 : decode cX0_earliestDue 4 = .ok (.iload_n 2, 1) := by decide +kernel
theorem dX0_earliestDue_5 : decode cX0_earliestDue 5 = .ok (.aload_n 0, 1) := by decide +kernel
theorem dX0_earliestDue_6 : decode cX0_earliestDue 6 = .ok (.getfield 35, 3) := by decide +kernel
theorem dX0_earliestDue_9 : decode cX0_earliestDue 9 = .ok (.if_icmp .ge 40, 3) := by decide +kernel
theorem dX0_earliestDue_12 : decode cX0_earliestDue 12 = .ok (.aload_n 0, 1) := by decide +kernel
theorem dX0_earliestDue_13 : decode cX0_earliestDue 13 = .ok (.aload_n 0, 1) := by decide +kernel
theorem dX0_earliestDue_14 : decode cX0_earliestDue 14 = .ok (.getfield 19, 3) := by decide +kernel
theorem dX0_earliestDue_17 : decode cX0_earliestDue 17 = .ok (.iload_n 2, 1) := by decide +kernel
theorem dX0_earliestDue_18 : decode cX0_earliestDue 18 = .ok (.aaload, 1) := by decide +kernel
theorem dX0_earliestDue_19 : decode cX0_earliestDue 19 = .ok (.invokevirtual 226, 3) := by decide +kernel
theorem dX0_earliestDue_22 : decode cX0_earliestDue 22 = .ok (.istore_n 3, 1) := by decide +kernel
theorem dX0_earliestDue_23 : decode cX0_earliestDue 23 = .ok (.iload_n 3, 1) := by decide +kernel
theorem dX0_earliestDue_24 : decode cX0_earliestDue 24 = .ok (.aload_n 0, 1) := by decide +kernel
theorem dX0_earliestDue_25 : decode cX0_earliestDue 25 = .ok (.getfield 38, 3) := by decide +kernel
theorem dX0_earliestDue_28 : decode cX0_earliestDue 28 = .ok (.if_icmp .lt 15, 3) := by decide +kernel
theorem dX0_earliestDue_31 : decode cX0_earliestDue 31 = .ok (.iload_n 1, 1) := by decide +kernel
theorem dX0_earliestDue_32 : decode cX0_earliestDue 32 = .ok (.iconst (-1), 1) := by decide +kernel
theorem dX0_earliestDue_33 : decode cX0_earliestDue 33 = .ok (.if_icmp .eq 8, 3) := by decide +kernel
theorem dX0_earliestDue_36 : decode cX0_earliestDue 36 = .ok (.iload_n 3, 1) := by decide +kernel
theorem dX0_earliestDue_37 : decode cX0_earliestDue 37 = .ok (.iload_n 1, 1) := by decide +kernel
theorem dX0_earliestDue_38 : decode cX0_earliestDue 38 = .ok (.if_icmp .ge 5, 3) := by decide +kernel
theorem dX0_earliestDue_41 : decode cX0_earliestDue 41 = .ok (.iload_n 3, 1) := by decide +kernel
theorem dX0_earliestDue_42 : decode cX0_earliestDue 42 = .ok (.istore_n 1, 1) := by decide +kernel
theorem dX0_earliestDue_43 : decode cX0_earliestDue 43 = .ok (.iinc 2 1, 3) := by decide +kernel
theorem dX0_earliestDue_46 : decode cX0_earliestDue 46 = .ok (.goto (-42), 3) := by decide +kernel
theorem dX0_earliestDue_49 : decode cX0_earliestDue 49 = .ok (.iload_n 1, 1) := by decide +kernel
theorem dX0_earliestDue_50 : decode cX0_earliestDue 50 = .ok (.ireturn, 1) := by decide +kernel
theorem dX0_dueOf_0 : decode cX0_dueOf 0 = .ok (.aload_n 0, 1) := by decide +kernel
theorem dX0_dueOf_1 : decode cX0_dueOf 1 = .ok (.aload_n 1, 1) := by decide +kernel
theorem dX0_dueOf_2 : decode cX0_dueOf 2 = .ok (.invokevirtual 229, 3) := by decide +kernel
theorem dX0_dueOf_5 : decode cX0_dueOf 5 = .ok (.astore_n 2, 1) := by decide +kernel
theorem dX0_dueOf_6 : decode cX0_dueOf 6 = .ok (.aload_n 2, 1) := by decide +kernel
theorem dX0_dueOf_7 : decode cX0_dueOf 7 = .ok (.getfield 85, 3) := by decide +kernel
theorem dX0_dueOf_10 : decode cX0_dueOf 10 = .ok (.bipush 97, 2) := by decide +kernel
theorem dX0_dueOf_12 : decode cX0_dueOf 12 = .ok (.if_icmp .ne 11, 3) := by decide +kernel
theorem dX0_dueOf_15 : decode cX0_dueOf 15 = .ok (.aload_n 2, 1) := by decide +kernel
theorem dX0_dueOf_16 : decode cX0_dueOf 16 = .ok (.getfield 103, 3) := by decide +kernel
theorem dX0_dueOf_19 : decode cX0_dueOf 19 = .ok (.getfield 107, 3) := by decide +kernel
theorem dX0_dueOf_22 : decode cX0_dueOf 22 = .ok (.ireturn, 1) := by decide +kernel
theorem dX0_dueOf_23 : decode cX0_dueOf 23 = .ok (.aload_n 2, 1) := by decide +kernel
theorem dX0_dueOf_24 : decode cX0_dueOf 24 = .ok (.getfield 85, 3) := by decide +kernel
theorem dX0_dueOf_27 : decode cX0_dueOf 27 = .ok (.bipush 100, 2) := by decide +kernel
theorem dX0_dueOf_29 : decode cX0_dueOf 29 = .ok (.if_icmp .ne 13, 3) := by decide +kernel
theorem dX0_dueOf_32 : decode cX0_dueOf 32 = .ok (.aload_n 2, 1) := by decide +kernel
theorem dX0_dueOf_33 : decode cX0_dueOf 33 = .ok (.getfield 130, 3) := by decide +kernel
theorem dX0_dueOf_36 : decode cX0_dueOf 36 = .ok (.getfield 142, 3) := by decide +kernel
theorem dX0_dueOf_39 : decode cX0_dueOf 39 = .ok (.goto 4, 3) := by decide +kernel
theorem dX0_dueOf_42 : decode cX0_dueOf 42 = .ok (.iconst (-1), 1) := by decide +kernel
theorem dX0_dueOf_43 : decode cX0_dueOf 43 = .ok (.ireturn, 1) := by decide +kernel
theorem dX0_countStanding_0 : decode cX0_countStanding 0 = .ok (.iconst 0, 1) := by decide +kernel
theorem dX0_countStanding_1 : decode cX0_countStanding 1 = .ok (.istore_n 2, 1) := by decide +kernel
theorem dX0_countStanding_2 : decode cX0_countStanding 2 = .ok (.iconst 0, 1) := by decide +kernel
theorem dX0_countStanding_3 : decode cX0_countStanding 3 = .ok (.istore_n 3, 1) := by decide +kernel
theorem dX0_countStanding_4 : decode cX0_countStanding 4 = .ok (.iload_n 3, 1) := by decide +kernel
theorem dX0_countStanding_5 : decode cX0_countStanding 5 = .ok (.aload_n 0, 1) := by decide +kernel
theorem dX0_countStanding_6 : decode cX0_countStanding 6 = .ok (.getfield 35, 3) := by decide +kernel
theorem dX0_countStanding_9 : decode cX0_countStanding 9 = .ok (.if_icmp .ge 25, 3) := by decide +kernel
theorem dX0_countStanding_12 : decode cX0_countStanding 12 = .ok (.aload_n 0, 1) := by decide +kernel
theorem dX0_countStanding_13 : decode cX0_countStanding 13 = .ok (.getfield 19, 3) := by decide +kernel
theorem dX0_countStanding_16 : decode cX0_countStanding 16 = .ok (.iload_n 3, 1) := by decide +kernel
theorem dX0_countStanding_17 : decode cX0_countStanding 17 = .ok (.aaload, 1) := by decide +kernel
theorem dX0_countStanding_18 : decode cX0_countStanding 18 = .ok (.getfield 85, 3) := by decide +kernel
theorem dX0_countStanding_21 : decode cX0_countStanding 21 = .ok (.iload_n 1, 1) := by decide +kernel
theorem dX0_countStanding_22 : decode cX0_countStanding 22 = .ok (.if_icmp .ne 6, 3) := by decide +kernel
theorem dX0_countStanding_25 : decode cX0_countStanding 25 = .ok (.iinc 2 1, 3) := by decide +kernel
theorem dX0_countStanding_28 : decode cX0_countStanding 28 = .ok (.iinc 3 1, 3) := by decide +kernel
theorem dX0_countStanding_31 : decode cX0_countStanding 31 = .ok (.goto (-27), 3) := by decide +kernel
theorem dX0_countStanding_34 : decode cX0_countStanding 34 = .ok (.iload_n 2, 1) := by decide +kernel
theorem dX0_countStanding_35 : decode cX0_countStanding 35 = .ok (.ireturn, 1) := by decide +kernel
theorem dX0_countTold_0 : decode cX0_countTold 0 = .ok (.iconst 0, 1) := by decide +kernel
theorem dX0_countTold_1 : decode cX0_countTold 1 = .ok (.istore_n 2, 1) := by decide +kernel
theorem dX0_countTold_2 : decode cX0_countTold 2 = .ok (.iconst 0, 1) := by decide +kernel
theorem dX0_countTold_3 : decode cX0_countTold 3 = .ok (.istore_n 3, 1) := by decide +kernel
theorem dX0_countTold_4 : decode cX0_countTold 4 = .ok (.iload_n 3, 1) := by decide +kernel
theorem dX0_countTold_5 : decode cX0_countTold 5 = .ok (.aload_n 0, 1) := by decide +kernel
theorem dX0_countTold_6 : decode cX0_countTold 6 = .ok (.getfield 35, 3) := by decide +kernel
theorem dX0_countTold_9 : decode cX0_countTold 9 = .ok (.if_icmp .ge 25, 3) := by decide +kernel
theorem dX0_countTold_12 : decode cX0_countTold 12 = .ok (.aload_n 0, 1) := by decide +kernel
theorem dX0_countTold_13 : decode cX0_countTold 13 = .ok (.getfield 19, 3) := by decide +kernel
theorem dX0_countTold_16 : decode cX0_countTold 16 = .ok (.iload_n 3, 1) := by decide +kernel
theorem dX0_countTold_17 : decode cX0_countTold 17 = .ok (.aaload, 1) := by decide +kernel
theorem dX0_countTold_18 : decode cX0_countTold 18 = .ok (.getfield 233, 3) := by decide +kernel
theorem dX0_countTold_21 : decode cX0_countTold 21 = .ok (.iload_n 1, 1) := by decide +kernel
theorem dX0_countTold_22 : decode cX0_countTold 22 = .ok (.if_icmp .ne 6, 3) := by decide +kernel
theorem dX0_countTold_25 : decode cX0_countTold 25 = .ok (.iinc 2 1, 3) := by decide +kernel
theorem dX0_countTold_28 : decode cX0_countTold 28 = .ok (.iinc 3 1, 3) := by decide +kernel
theorem dX0_countTold_31 : decode cX0_countTold 31 = .ok (.goto (-27), 3) := by decide +kernel
theorem dX0_countTold_34 : decode cX0_countTold 34 = .ok (.iload_n 2, 1) := by decide +kernel
theorem dX0_countTold_35 : decode cX0_countTold 35 = .ok (.ireturn, 1) := by decide +kernel
theorem dX0_countClosed_0 : decode cX0_countClosed 0 = .ok (.iconst 0, 1) := by decide +kernel
theorem dX0_countClosed_1 : decode cX0_countClosed 1 = .ok (.istore_n 1, 1) := by decide +kernel
theorem dX0_countClosed_2 : decode cX0_countClosed 2 = .ok (.iconst 0, 1) := by decide +kernel
theorem dX0_countClosed_3 : decode cX0_countClosed 3 = .ok (.istore_n 2, 1) := by decide +kernel
theorem dX0_countClosed_4 : decode cX0_countClosed 4 = .ok (.iload_n 2, 1) := by decide +kernel
theorem dX0_countClosed_5 : decode cX0_countClosed 5 = .ok (.aload_n 0, 1) := by decide +kernel
theorem dX0_countClosed_6 : decode cX0_countClosed 6 = .ok (.getfield 35, 3) := by decide +kernel
theorem dX0_countClosed_9 : decode cX0_countClosed 9 = .ok (.if_icmp .ge 27, 3) := by decide +kernel
theorem dX0_countClosed_12 : decode cX0_countClosed 12 = .ok (.aload_n 0, 1) := by decide +kernel
theorem dX0_countClosed_13 : decode cX0_countClosed 13 = .ok (.getfield 19, 3) := by decide +kernel
theorem dX0_countClosed_16 : decode cX0_countClosed 16 = .ok (.iload_n 2, 1) := by decide +kernel
theorem dX0_countClosed_17 : decode cX0_countClosed 17 = .ok (.aaload, 1) := by decide +kernel
theorem dX0_countClosed_18 : decode cX0_countClosed 18 = .ok (.getfield 85, 3) := by decide +kernel
theorem dX0_countClosed_21 : decode cX0_countClosed 21 = .ok (.invokestatic 236, 3) := by decide +kernel
theorem dX0_countClosed_24 : decode cX0_countClosed 24 = .ok (.ifCond .eq 6, 3) := by decide +kernel
theorem dX0_countClosed_27 : decode cX0_countClosed 27 = .ok (.iinc 1 1, 3) := by decide +kernel
theorem dX0_countClosed_30 : decode cX0_countClosed 30 = .ok (.iinc 2 1, 3) := by decide +kernel
theorem dX0_countClosed_33 : decode cX0_countClosed 33 = .ok (.goto (-29), 3) := by decide +kernel
theorem dX0_countClosed_36 : decode cX0_countClosed 36 = .ok (.iload_n 1, 1) := by decide +kernel
theorem dX0_countClosed_37 : decode cX0_countClosed 37 = .ok (.ireturn, 1) := by decide +kernel
theorem dX0_sumOfClosedDays_0 : decode cX0_sumOfClosedDays 0 = .ok (.iconst 0, 1) := by decide +kernel
theorem dX0_sumOfClosedDays_1 : decode cX0_sumOfClosedDays 1 = .ok (.istore_n 1, 1) := by decide +kernel
theorem dX0_sumOfClosedDays_2 : decode cX0_sumOfClosedDays 2 = .ok (.iconst 0, 1) := by decide +kernel
theorem dX0_sumOfClosedDays_3 : decode cX0_sumOfClosedDays 3 = .ok (.istore_n 2, 1) := by decide +kernel
theorem dX0_sumOfClosedDays_4 : decode cX0_sumOfClosedDays 4 = .ok (.iload_n 2, 1) := by decide +kernel
theorem dX0_sumOfClosedDays_5 : decode cX0_sumOfClosedDays 5 = .ok (.aload_n 0, 1) := by decide +kernel
theorem dX0_sumOfClosedDays_6 : decode cX0_sumOfClosedDays 6 = .ok (.getfield 35, 3) := by decide +kernel
theorem dX0_sumOfClosedDays_9 : decode cX0_sumOfClosedDays 9 = .ok (.if_icmp .ge 40, 3) := by decide +kernel
theorem dX0_sumOfClosedDays_12 : decode cX0_sumOfClosedDays 12 = .ok (.aload_n 0, 1) := by decide +kernel
theorem dX0_sumOfClosedDays_13 : decode cX0_sumOfClosedDays 13 = .ok (.getfield 19, 3) := by decide +kernel
theorem dX0_sumOfClosedDays_16 : decode cX0_sumOfClosedDays 16 = .ok (.iload_n 2, 1) := by decide +kernel
theorem dX0_sumOfClosedDays_17 : decode cX0_sumOfClosedDays 17 = .ok (.aaload, 1) := by decide +kernel
theorem dX0_sumOfClosedDays_18 : decode cX0_sumOfClosedDays 18 = .ok (.getfield 85, 3) := by decide +kernel
theorem dX0_sumOfClosedDays_21 : decode cX0_sumOfClosedDays 21 = .ok (.invokestatic 236, 3) := by decide +kernel
theorem dX0_sumOfClosedDays_24 : decode cX0_sumOfClosedDays 24 = .ok (.ifCond .eq 19, 3) := by decide +kernel
theorem dX0_sumOfClosedDays_27 : decode cX0_sumOfClosedDays 27 = .ok (.iload_n 1, 1) := by decide +kernel
theorem dX0_sumOfClosedDays_28 : decode cX0_sumOfClosedDays 28 = .ok (.aload_n 0, 1) := by decide +kernel
theorem dX0_sumOfClosedDays_29 : decode cX0_sumOfClosedDays 29 = .ok (.getfield 19, 3) := by decide +kernel
theorem dX0_sumOfClosedDays_32 : decode cX0_sumOfClosedDays 32 = .ok (.iload_n 2, 1) := by decide +kernel
theorem dX0_sumOfClosedDays_33 : decode cX0_sumOfClosedDays 33 = .ok (.aaload, 1) := by decide +kernel
theorem dX0_sumOfClosedDays_34 : decode cX0_sumOfClosedDays 34 = .ok (.aload_n 0, 1) := by decide +kernel
theorem dX0_sumOfClosedDays_35 : decode cX0_sumOfClosedDays 35 = .ok (.getfield 38, 3) := by decide +kernel
theorem dX0_sumOfClosedDays_38 : decode cX0_sumOfClosedDays 38 = .ok (.invokevirtual 240, 3) := by decide +kernel
theorem dX0_sumOfClosedDays_41 : decode cX0_sumOfClosedDays 41 = .ok (.iadd, 1) := by decide +kernel
theorem dX0_sumOfClosedDays_42 : decode cX0_sumOfClosedDays 42 = .ok (.istore_n 1, 1) := by decide +kernel
theorem dX0_sumOfClosedDays_43 : decode cX0_sumOfClosedDays 43 = .ok (.iinc 2 1, 3) := by decide +kernel
theorem dX0_sumOfClosedDays_46 : decode cX0_sumOfClosedDays 46 = .ok (.goto (-42), 3) := by decide +kernel
theorem dX0_sumOfClosedDays_49 : decode cX0_sumOfClosedDays 49 = .ok (.iload_n 1, 1) := by decide +kernel
theorem dX0_sumOfClosedDays_50 : decode cX0_sumOfClosedDays 50 = .ok (.ireturn, 1) := by decide +kernel
theorem dX0_isOrderly_0 : decode cX0_isOrderly 0 = .ok (.iconst 0, 1) := by decide +kernel
theorem dX0_isOrderly_1 : decode cX0_isOrderly 1 = .ok (.istore_n 1, 1) := by decide +kernel
theorem dX0_isOrderly_2 : decode cX0_isOrderly 2 = .ok (.iload_n 1, 1) := by decide +kernel
theorem dX0_isOrderly_3 : decode cX0_isOrderly 3 = .ok (.aload_n 0, 1) := by decide +kernel
theorem dX0_isOrderly_4 : decode cX0_isOrderly 4 = .ok (.getfield 35, 3) := by decide +kernel
theorem dX0_isOrderly_7 : decode cX0_isOrderly 7 = .ok (.if_icmp .ge 77, 3) := by decide +kernel
theorem dX0_isOrderly_10 : decode cX0_isOrderly 10 = .ok (.aload_n 0, 1) := by decide +kernel
theorem dX0_isOrderly_11 : decode cX0_isOrderly 11 = .ok (.getfield 19, 3) := by decide +kernel
theorem dX0_isOrderly_14 : decode cX0_isOrderly 14 = .ok (.iload_n 1, 1) := by decide +kernel
theorem dX0_isOrderly_15 : decode cX0_isOrderly 15 = .ok (.aaload, 1) := by decide +kernel
theorem dX0_isOrderly_16 : decode cX0_isOrderly 16 = .ok (.astore_n 2, 1) := by decide +kernel
theorem dX0_isOrderly_17 : decode cX0_isOrderly 17 = .ok (.aload_n 0, 1) := by decide +kernel
theorem dX0_isOrderly_18 : decode cX0_isOrderly 18 = .ok (.aload_n 2, 1) := by decide +kernel
theorem dX0_isOrderly_19 : decode cX0_isOrderly 19 = .ok (.invokevirtual 229, 3) := by decide +kernel
theorem dX0_isOrderly_22 : decode cX0_isOrderly 22 = .ok (.astore_n 3, 1) := by decide +kernel
theorem dX0_isOrderly_23 : decode cX0_isOrderly 23 = .ok (.aload_n 2, 1) := by decide +kernel
theorem dX0_isOrderly_24 : decode cX0_isOrderly 24 = .ok (.getfield 85, 3) := by decide +kernel
theorem dX0_isOrderly_27 : decode cX0_isOrderly 27 = .ok (.aload_n 3, 1) := by decide +kernel
theorem dX0_isOrderly_28 : decode cX0_isOrderly 28 = .ok (.getfield 85, 3) := by decide +kernel
theorem dX0_isOrderly_31 : decode cX0_isOrderly 31 = .ok (.if_icmp .ne 25, 3) := by decide +kernel
theorem dX0_isOrderly_34 : decode cX0_isOrderly 34 = .ok (.aload_n 2, 1) := by decide +kernel
theorem dX0_isOrderly_35 : decode cX0_isOrderly 35 = .ok (.getfield 219, 3) := by decide +kernel
theorem dX0_isOrderly_38 : decode cX0_isOrderly 38 = .ok (.aload_n 3, 1) := by decide +kernel
theorem dX0_isOrderly_39 : decode cX0_isOrderly 39 = .ok (.getfield 219, 3) := by decide +kernel
theorem dX0_isOrderly_42 : decode cX0_isOrderly 42 = .ok (.if_icmp .ne 14, 3) := by decide +kernel
theorem dX0_isOrderly_45 : decode cX0_isOrderly 45 = .ok (.aload_n 2, 1) := by decide +kernel
theorem dX0_isOrderly_46 : decode cX0_isOrderly 46 = .ok (.getfield 170, 3) := by decide +kernel
theorem dX0_isOrderly_49 : decode cX0_isOrderly 49 = .ok (.aload_n 3, 1) := by decide +kernel
theorem dX0_isOrderly_50 : decode cX0_isOrderly 50 = .ok (.getfield 170, 3) := by decide +kernel
theorem dX0_isOrderly_53 : decode cX0_isOrderly 53 = .ok (.if_icmp .eq 5, 3) := by decide +kernel
theorem dX0_isOrderly_56 : decode cX0_isOrderly 56 = .ok (.iconst 0, 1) := by decide +kernel
theorem dX0_isOrderly_57 : decode cX0_isOrderly 57 = .ok (.ireturn, 1) := by decide +kernel
theorem dX0_isOrderly_58 : decode cX0_isOrderly 58 = .ok (.aload_n 2, 1) := by decide +kernel
theorem dX0_isOrderly_59 : decode cX0_isOrderly 59 = .ok (.getfield 85, 3) := by decide +kernel
theorem dX0_isOrderly_62 : decode cX0_isOrderly 62 = .ok (.invokestatic 236, 3) := by decide +kernel
theorem dX0_isOrderly_65 : decode cX0_isOrderly 65 = .ok (.ifCond .eq 13, 3) := by decide +kernel
theorem dX0_isOrderly_68 : decode cX0_isOrderly 68 = .ok (.aload_n 2, 1) := by decide +kernel
theorem dX0_isOrderly_69 : decode cX0_isOrderly 69 = .ok (.getfield 243, 3) := by decide +kernel
theorem dX0_isOrderly_72 : decode cX0_isOrderly 72 = .ok (.iconst (-1), 1) := by decide +kernel
theorem dX0_isOrderly_73 : decode cX0_isOrderly 73 = .ok (.if_icmp .ne 5, 3) := by decide +kernel
theorem dX0_isOrderly_76 : decode cX0_isOrderly 76 = .ok (.iconst 0, 1) := by decide +kernel
theorem dX0_isOrderly_77 : decode cX0_isOrderly 77 = .ok (.ireturn, 1) := by decide +kernel
theorem dX0_isOrderly_78 : decode cX0_isOrderly 78 = .ok (.iinc 1 1, 3) := by decide +kernel
theorem dX0_isOrderly_81 : decode cX0_isOrderly 81 = .ok (.goto (-79), 3) := by decide +kernel
theorem dX0_isOrderly_84 : decode cX0_isOrderly 84 = .ok (.iconst 1, 1) := by decide +kernel
theorem dX0_isOrderly_85 : decode cX0_isOrderly 85 = .ok (.ireturn, 1) := by decide +kernel
theorem dX0_matches_0 : decode cX0_matches 0 = .ok (.aload_n 0, 1) := by decide +kernel
theorem dX0_matches_1 : decode cX0_matches 1 = .ok (.getfield 38, 3) := by decide +kernel
theorem dX0_matches_4 : decode cX0_matches 4 = .ok (.aload_n 1, 1) := by decide +kernel
theorem dX0_matches_5 : decode cX0_matches 5 = .ok (.getfield 38, 3) := by decide +kernel
theorem dX0_matches_8 : decode cX0_matches 8 = .ok (.if_icmp .ne 31, 3) := by decide +kernel
theorem dX0_matches_11 : decode cX0_matches 11 = .ok (.aload_n 0, 1) := by decide +kernel
theorem dX0_matches_12 : decode cX0_matches 12 = .ok (.aload_n 1, 1) := by decide +kernel
theorem dX0_matches_13 : decode cX0_matches 13 = .ok (.invokevirtual 246, 3) := by decide +kernel
theorem dX0_matches_16 : decode cX0_matches 16 = .ok (.ifCond .eq 23, 3) := by decide +kernel
theorem dX0_matches_19 : decode cX0_matches 19 = .ok (.aload_n 0, 1) := by decide +kernel
theorem dX0_matches_20 : decode cX0_matches 20 = .ok (.aload_n 1, 1) := by decide +kernel
theorem dX0_matches_21 : decode cX0_matches 21 = .ok (.invokevirtual 250, 3) := by decide +kernel
theorem dX0_matches_24 : decode cX0_matches 24 = .ok (.ifCond .eq 15, 3) := by decide +kernel
theorem dX0_matches_27 : decode cX0_matches 27 = .ok (.aload_n 0, 1) := by decide +kernel
theorem dX0_matches_28 : decode cX0_matches 28 = .ok (.aload_n 1, 1) := by decide +kernel
theorem dX0_matches_29 : decode cX0_matches 29 = .ok (.invokevirtual 253, 3) := by decide +kernel
theorem dX0_matches_32 : decode cX0_matches 32 = .ok (.ifCond .eq 7, 3) := by decide +kernel
theorem dX0_matches_35 : decode cX0_matches 35 = .ok (.iconst 1, 1) := by decide +kernel
theorem dX0_matches_36 : decode cX0_matches 36 = .ok (.goto 4, 3) := by decide +kernel
theorem dX0_matches_39 : decode cX0_matches 39 = .ok (.iconst 0, 1) := by decide +kernel
theorem dX0_matches_40 : decode cX0_matches 40 = .ok (.ireturn, 1) := by decide +kernel
theorem dX0_matchesInOffices_0 : decode cX0_matchesInOffices 0 = .ok (.aload_n 0, 1) := by decide +kernel
theorem dX0_matchesInOffices_1 : decode cX0_matchesInOffices 1 = .ok (.getfield 31, 3) := by decide +kernel
theorem dX0_matchesInOffices_4 : decode cX0_matchesInOffices 4 = .ok (.aload_n 1, 1) := by decide +kernel
theorem dX0_matchesInOffices_5 : decode cX0_matchesInOffices 5 = .ok (.getfield 31, 3) := by decide +kernel
theorem dX0_matchesInOffices_8 : decode cX0_matchesInOffices 8 = .ok (.if_icmp .eq 5, 3) := by decide +kernel
theorem dX0_matchesInOffices_11 : decode cX0_matchesInOffices 11 = .ok (.iconst 0, 1) := by decide +kernel
theorem dX0_matchesInOffices_12 : decode cX0_matchesInOffices 12 = .ok (.ireturn, 1) := by decide +kernel
theorem dX0_matchesInOffices_13 : decode cX0_matchesInOffices 13 = .ok (.iconst 0, 1) := by decide +kernel
theorem dX0_matchesInOffices_14 : decode cX0_matchesInOffices 14 = .ok (.istore_n 2, 1) := by decide +kernel
theorem dX0_matchesInOffices_15 : decode cX0_matchesInOffices 15 = .ok (.iload_n 2, 1) := by decide +kernel
theorem dX0_matchesInOffices_16 : decode cX0_matchesInOffices 16 = .ok (.aload_n 0, 1) := by decide +kernel
theorem dX0_matchesInOffices_17 : decode cX0_matchesInOffices 17 = .ok (.getfield 31, 3) := by decide +kernel
theorem dX0_matchesInOffices_20 : decode cX0_matchesInOffices 20 = .ok (.if_icmp .ge 29, 3) := by decide +kernel
theorem dX0_matchesInOffices_23 : decode cX0_matchesInOffices 23 = .ok (.aload_n 0, 1) := by decide +kernel
theorem dX0_matchesInOffices_24 : decode cX0_matchesInOffices 24 = .ok (.getfield 11, 3) := by decide +kernel
theorem dX0_matchesInOffices_27 : decode cX0_matchesInOffices 27 = .ok (.iload_n 2, 1) := by decide +kernel
theorem dX0_matchesInOffices_28 : decode cX0_matchesInOffices 28 = .ok (.aaload, 1) := by decide +kernel
theorem dX0_matchesInOffices_29 : decode cX0_matchesInOffices 29 = .ok (.aload_n 1, 1) := by decide +kernel
theorem dX0_matchesInOffices_30 : decode cX0_matchesInOffices 30 = .ok (.getfield 11, 3) := by decide +kernel
theorem dX0_matchesInOffices_33 : decode cX0_matchesInOffices 33 = .ok (.iload_n 2, 1) := by decide +kernel
theorem dX0_matchesInOffices_34 : decode cX0_matchesInOffices 34 = .ok (.aaload, 1) := by decide +kernel
theorem dX0_matchesInOffices_35 : decode cX0_matchesInOffices 35 = .ok (.invokevirtual 256, 3) := by decide +kernel
theorem dX0_matchesInOffices_38 : decode cX0_matchesInOffices 38 = .ok (.ifCond .ne 5, 3) := by decide +kernel
theorem dX0_matchesInOffices_41 : decode cX0_matchesInOffices 41 = .ok (.iconst 0, 1) := by decide +kernel
theorem dX0_matchesInOffices_42 : decode cX0_matchesInOffices 42 = .ok (.ireturn, 1) := by decide +kernel
theorem dX0_matchesInOffices_43 : decode cX0_matchesInOffices 43 = .ok (.iinc 2 1, 3) := by decide +kernel
theorem dX0_matchesInOffices_46 : decode cX0_matchesInOffices 46 = .ok (.goto (-31), 3) := by decide +kernel
theorem dX0_matchesInOffices_49 : decode cX0_matchesInOffices 49 = .ok (.iconst 1, 1) := by decide +kernel
theorem dX0_matchesInOffices_50 : decode cX0_matchesInOffices 50 = .ok (.ireturn, 1) := by decide +kernel
theorem dX0_matchesInComplaints_0 : decode cX0_matchesInComplaints 0 = .ok (.aload_n 0, 1) := by decide +kernel
theorem dX0_matchesInComplaints_1 : decode cX0_matchesInComplaints 1 = .ok (.getfield 35, 3) := by decide +kernel
theorem dX0_matchesInComplaints_4 : decode cX0_matchesInComplaints 4 = .ok (.aload_n 1, 1) := by decide +kernel
theorem dX0_matchesInComplaints_5 : decode cX0_matchesInComplaints 5 = .ok (.getfield 35, 3) := by decide +kernel
theorem dX0_matchesInComplaints_8 : decode cX0_matchesInComplaints 8 = .ok (.if_icmp .eq 5, 3) := by decide +kernel
theorem dX0_matchesInComplaints_11 : decode cX0_matchesInComplaints 11 = .ok (.iconst 0, 1) := by decide +kernel
theorem dX0_matchesInComplaints_12 : decode cX0_matchesInComplaints 12 = .ok (.ireturn, 1) := by decide +kernel
theorem dX0_matchesInComplaints_13 : decode cX0_matchesInComplaints 13 = .ok (.iconst 0, 1) := by decide +kernel
theorem dX0_matchesInComplaints_14 : decode cX0_matchesInComplaints 14 = .ok (.istore_n 2, 1) := by decide +kernel
theorem dX0_matchesInComplaints_15 : decode cX0_matchesInComplaints 15 = .ok (.iload_n 2, 1) := by decide +kernel
theorem dX0_matchesInComplaints_16 : decode cX0_matchesInComplaints 16 = .ok (.aload_n 0, 1) := by decide +kernel
theorem dX0_matchesInComplaints_17 : decode cX0_matchesInComplaints 17 = .ok (.getfield 35, 3) := by decide +kernel
theorem dX0_matchesInComplaints_20 : decode cX0_matchesInComplaints 20 = .ok (.if_icmp .ge 29, 3) := by decide +kernel
theorem dX0_matchesInComplaints_23 : decode cX0_matchesInComplaints 23 = .ok (.aload_n 0, 1) := by decide +kernel
theorem dX0_matchesInComplaints_24 : decode cX0_matchesInComplaints 24 = .ok (.getfield 19, 3) := by decide +kernel
theorem dX0_matchesInComplaints_27 : decode cX0_matchesInComplaints 27 = .ok (.iload_n 2, 1) := by decide +kernel
theorem dX0_matchesInComplaints_28 : decode cX0_matchesInComplaints 28 = .ok (.aaload, 1) := by decide +kernel
theorem dX0_matchesInComplaints_29 : decode cX0_matchesInComplaints 29 = .ok (.aload_n 1, 1) := by decide +kernel
theorem dX0_matchesInComplaints_30 : decode cX0_matchesInComplaints 30 = .ok (.getfield 19, 3) := by decide +kernel
theorem dX0_matchesInComplaints_33 : decode cX0_matchesInComplaints 33 = .ok (.iload_n 2, 1) := by decide +kernel
theorem dX0_matchesInComplaints_34 : decode cX0_matchesInComplaints 34 = .ok (.aaload, 1) := by decide +kernel
theorem dX0_matchesInComplaints_35 : decode cX0_matchesInComplaints 35 = .ok (.invokevirtual 260, 3) := by decide +kernel
theorem dX0_matchesInComplaints_38 : decode cX0_matchesInComplaints 38 = .ok (.ifCond .ne 5, 3) := by decide +kernel
theorem dX0_matchesInComplaints_41 : decode cX0_matchesInComplaints 41 = .ok (.iconst 0, 1) := by decide +kernel
theorem dX0_matchesInComplaints_42 : decode cX0_matchesInComplaints 42 = .ok (.ireturn, 1) := by decide +kernel
theorem dX0_matchesInComplaints_43 : decode cX0_matchesInComplaints 43 = .ok (.iinc 2 1, 3) := by decide +kernel
theorem dX0_matchesInComplaints_46 : decode cX0_matchesInComplaints 46 = .ok (.goto (-31), 3) := by decide +kernel
theorem dX0_matchesInComplaints_49 : decode cX0_matchesInComplaints 49 = .ok (.iconst 1, 1) := by decide +kernel
theorem dX0_matchesInComplaints_50 : decode cX0_matchesInComplaints 50 = .ok (.ireturn, 1) := by decide +kernel
theorem dX0_matchesInWeights_0 : decode cX0_matchesInWeights 0 = .ok (.iconst 0, 1) := by decide +kernel
theorem dX0_matchesInWeights_1 : decode cX0_matchesInWeights 1 = .ok (.istore_n 2, 1) := by decide +kernel
theorem dX0_matchesInWeights_2 : decode cX0_matchesInWeights 2 = .ok (.iload_n 2, 1) := by decide +kernel
theorem dX0_matchesInWeights_3 : decode cX0_matchesInWeights 3 = .ok (.iconst 5, 1) := by decide +kernel
theorem dX0_matchesInWeights_4 : decode cX0_matchesInWeights 4 = .ok (.if_icmp .ge 26, 3) := by decide +kernel
theorem dX0_matchesInWeights_7 : decode cX0_matchesInWeights 7 = .ok (.aload_n 0, 1) := by decide +kernel
theorem dX0_matchesInWeights_8 : decode cX0_matchesInWeights 8 = .ok (.getfield 23, 3) := by decide +kernel
theorem dX0_matchesInWeights_11 : decode cX0_matchesInWeights 11 = .ok (.iload_n 2, 1) := by decide +kernel
theorem dX0_matchesInWeights_12 : decode cX0_matchesInWeights 12 = .ok (.iaload, 1) := by decide +kernel
theorem dX0_matchesInWeights_13 : decode cX0_matchesInWeights 13 = .ok (.aload_n 1, 1) := by decide +kernel
theorem dX0_matchesInWeights_14 : decode cX0_matchesInWeights 14 = .ok (.getfield 23, 3) := by decide +kernel
theorem dX0_matchesInWeights_17 : decode cX0_matchesInWeights 17 = .ok (.iload_n 2, 1) := by decide +kernel
theorem dX0_matchesInWeights_18 : decode cX0_matchesInWeights 18 = .ok (.iaload, 1) := by decide +kernel
theorem dX0_matchesInWeights_19 : decode cX0_matchesInWeights 19 = .ok (.if_icmp .eq 5, 3) := by decide +kernel
theorem dX0_matchesInWeights_22 : decode cX0_matchesInWeights 22 = .ok (.iconst 0, 1) := by decide +kernel
theorem dX0_matchesInWeights_23 : decode cX0_matchesInWeights 23 = .ok (.ireturn, 1) := by decide +kernel
theorem dX0_matchesInWeights_24 : decode cX0_matchesInWeights 24 = .ok (.iinc 2 1, 3) := by decide +kernel
theorem dX0_matchesInWeights_27 : decode cX0_matchesInWeights 27 = .ok (.goto (-25), 3) := by decide +kernel
theorem dX0_matchesInWeights_30 : decode cX0_matchesInWeights 30 = .ok (.iconst 1, 1) := by decide +kernel
theorem dX0_matchesInWeights_31 : decode cX0_matchesInWeights 31 = .ok (.ireturn, 1) := by decide +kernel
theorem dX1_init_0 : decode cX1_init 0 = .ok (.aload_n 0, 1) := by decide +kernel
theorem dX1_init_1 : decode cX1_init 1 = .ok (.invokespecial 3, 3) := by decide +kernel
theorem dX1_init_4 : decode cX1_init 4 = .ok (.aload_n 0, 1) := by decide +kernel
theorem dX1_init_5 : decode cX1_init 5 = .ok (.new 9, 3) := by decide +kernel
theorem dX1_init_8 : decode cX1_init 8 = .ok (.dup, 1) := by decide +kernel
theorem dX1_init_9 : decode cX1_init 9 = .ok (.invokespecial 11, 3) := by decide +kernel
theorem dX1_init_12 : decode cX1_init 12 = .ok (.putfield 12, 3) := by decide +kernel
theorem dX1_init_15 : decode cX1_init 15 = .ok (.aload_n 0, 1) := by decide +kernel
theorem dX1_init_16 : decode cX1_init 16 = .ok (.new 18, 3) := by decide +kernel
theorem dX1_init_19 : decode cX1_init 19 = .ok (.dup, 1) := by decide +kernel
theorem dX1_init_20 : decode cX1_init 20 = .ok (.invokespecial 20, 3) := by decide +kernel
theorem dX1_init_23 : decode cX1_init 23 = .ok (.putfield 21, 3) := by decide +kernel
theorem dX1_init_26 : decode cX1_init 26 = .ok (.aload_n 0, 1) := by decide +kernel
theorem dX1_init_27 : decode cX1_init 27 = .ok (.iload_n 1, 1) := by decide +kernel
theorem dX1_init_28 : decode cX1_init 28 = .ok (.putfield 25, 3) := by decide +kernel
theorem dX1_init_31 : decode cX1_init 31 = .ok (.return_, 1) := by decide +kernel
theorem dX1_begin_0 : decode cX1_begin 0 = .ok (.aload_n 0, 1) := by decide +kernel
theorem dX1_begin_1 : decode cX1_begin 1 = .ok (.iload_n 1, 1) := by decide +kernel
theorem dX1_begin_2 : decode cX1_begin 2 = .ok (.putfield 29, 3) := by decide +kernel
theorem dX1_begin_5 : decode cX1_begin 5 = .ok (.aload_n 0, 1) := by decide +kernel
theorem dX1_begin_6 : decode cX1_begin 6 = .ok (.iload_n 2, 1) := by decide +kernel
theorem dX1_begin_7 : decode cX1_begin 7 = .ok (.putfield 32, 3) := by decide +kernel
theorem dX1_begin_10 : decode cX1_begin 10 = .ok (.aload_n 0, 1) := by decide +kernel
theorem dX1_begin_11 : decode cX1_begin 11 = .ok (.iload_n 3, 1) := by decide +kernel
theorem dX1_begin_12 : decode cX1_begin 12 = .ok (.putfield 35, 3) := by decide +kernel
theorem dX1_begin_15 : decode cX1_begin 15 = .ok (.aload_n 0, 1) := by decide +kernel
theorem dX1_begin_16 : decode cX1_begin 16 = .ok (.iload 4, 2) := by decide +kernel
theorem dX1_begin_18 : decode cX1_begin 18 = .ok (.putfield 38, 3) := by decide +kernel
theorem dX1_begin_21 : decode cX1_begin 21 = .ok (.aload_n 0, 1) := by decide +kernel
theorem dX1_begin_22 : decode cX1_begin 22 = .ok (.iload 5, 2) := by decide +kernel
theorem dX1_begin_24 : decode cX1_begin 24 = .ok (.putfield 41, 3) := by decide +kernel
theorem dX1_begin_27 : decode cX1_begin 27 = .ok (.aload_n 0, 1) := by decide +kernel
theorem dX1_begin_28 : decode cX1_begin 28 = .ok (.iconst 0, 1) := by decide +kernel
theorem dX1_begin_29 : decode cX1_begin 29 = .ok (.putfield 44, 3) := by decide +kernel
theorem dX1_begin_32 : decode cX1_begin 32 = .ok (.aload_n 0, 1) := by decide +kernel
theorem dX1_begin_33 : decode cX1_begin 33 = .ok (.iconst 0, 1) := by decide +kernel
theorem dX1_begin_34 : decode cX1_begin 34 = .ok (.putfield 48, 3) := by decide +kernel
theorem dX1_begin_37 : decode cX1_begin 37 = .ok (.aload_n 0, 1) := by decide +kernel
theorem dX1_begin_38 : decode cX1_begin 38 = .ok (.iconst (-1), 1) := by decide +kernel
theorem dX1_begin_39 : decode cX1_begin 39 = .ok (.putfield 51, 3) := by decide +kernel
theorem dX1_begin_42 : decode cX1_begin 42 = .ok (.aload_n 0, 1) := by decide +kernel
theorem dX1_begin_43 : decode cX1_begin 43 = .ok (.bipush 110, 2) := by decide +kernel
theorem dX1_begin_45 : decode cX1_begin 45 = .ok (.putfield 54, 3) := by decide +kernel
theorem dX1_begin_48 : decode cX1_begin 48 = .ok (.aload_n 0, 1) := by decide +kernel
theorem dX1_begin_49 : decode cX1_begin 49 = .ok (.aload_n 0, 1) := by decide +kernel
theorem dX1_begin_50 : decode cX1_begin 50 = .ok (.getfield 25, 3) := by decide +kernel
theorem dX1_begin_53 : decode cX1_begin 53 = .ok (.putfield 58, 3) := by decide +kernel
theorem dX1_begin_56 : decode cX1_begin 56 = .ok (.aload_n 0, 1) := by decide +kernel
theorem dX1_begin_57 : decode cX1_begin 57 = .ok (.iconst (-1), 1) := by decide +kernel
theorem dX1_begin_58 : decode cX1_begin 58 = .ok (.putfield 61, 3) := by decide +kernel
theorem dX1_begin_61 : decode cX1_begin 61 = .ok (.aload_n 0, 1) := by decide +kernel
theorem dX1_begin_62 : decode cX1_begin 62 = .ok (.iconst (-1), 1) := by decide +kernel
theorem dX1_begin_63 : decode cX1_begin 63 = .ok (.putfield 64, 3) := by decide +kernel
theorem dX1_begin_66 : decode cX1_begin 66 = .ok (.aload_n 0, 1) := by decide +kernel
theorem dX1_begin_67 : decode cX1_begin 67 = .ok (.iconst 0, 1) := by decide +kernel
theorem dX1_begin_68 : decode cX1_begin 68 = .ok (.putfield 67, 3) := by decide +kernel
theorem dX1_begin_71 : decode cX1_begin 71 = .ok (.aload_n 0, 1) := by decide +kernel
theorem dX1_begin_72 : decode cX1_begin 72 = .ok (.getfield 12, 3) := by decide +kernel
theorem dX1_begin_75 : decode cX1_begin 75 = .ok (.iconst (-1), 1) := by decide +kernel
theorem dX1_begin_76 : decode cX1_begin 76 = .ok (.invokevirtual 70, 3) := by decide +kernel
theorem dX1_begin_79 : decode cX1_begin 79 = .ok (.aload_n 0, 1) := by decide +kernel
theorem dX1_begin_80 : decode cX1_begin 80 = .ok (.getfield 21, 3) := by decide +kernel
theorem dX1_begin_83 : decode cX1_begin 83 = .ok (.iconst (-1), 1) := by decide +kernel
theorem dX1_begin_84 : decode cX1_begin 84 = .ok (.invokevirtual 74, 3) := by decide +kernel
theorem dX1_begin_87 : decode cX1_begin 87 = .ok (.return_, 1) := by decide +kernel
theorem dX1_isJoined_0 : decode cX1_isJoined 0 = .ok (.aload_n 0, 1) := by decide +kernel
theorem dX1_isJoined_1 : decode cX1_isJoined 1 = .ok (.getfield 58, 3) := by decide +kernel
theorem dX1_isJoined_4 : decode cX1_isJoined 4 = .ok (.aload_n 0, 1) := by decide +kernel
theorem dX1_isJoined_5 : decode cX1_isJoined 5 = .ok (.getfield 25, 3) := by decide +kernel
theorem dX1_isJoined_8 : decode cX1_isJoined 8 = .ok (.if_icmp .eq 7, 3) := by decide +kernel
theorem dX1_isJoined_11 : decode cX1_isJoined 11 = .ok (.iconst 1, 1) := by decide +kernel
theorem dX1_isJoined_12 : decode cX1_isJoined 12 = .ok (.goto 4, 3) := by decide +kernel
theorem dX1_isJoined_15 : decode cX1_isJoined 15 = .ok (.iconst 0, 1) := by decide +kernel
theorem dX1_isJoined_16 : decode cX1_isJoined 16 = .ok (.ireturn, 1) := by decide +kernel
theorem dX1_moveTo_0 : decode cX1_moveTo 0 = .ok (.aload_n 0, 1) := by decide +kernel
theorem dX1_moveTo_1 : decode cX1_moveTo 1 = .ok (.getfield 64, 3) := by decide +kernel
theorem dX1_moveTo_4 : decode cX1_moveTo 4 = .ok (.iconst (-1), 1) := by decide +kernel
theorem dX1_moveTo_5 : decode cX1_moveTo 5 = .ok (.if_icmp .eq 23, 3) := by decide +kernel
theorem dX1_moveTo_8 : decode cX1_moveTo 8 = .ok (.aload_n 0, 1) := by decide +kernel
theorem dX1_moveTo_9 : decode cX1_moveTo 9 = .ok (.dup, 1) := by decide +kernel
theorem dX1_moveTo_10 : decode cX1_moveTo 10 = .ok (.getfield 67, 3) := by decide +kernel
theorem dX1_moveTo_13 : decode cX1_moveTo 13 = .ok (.iload_n 2, 1) := by decide +kernel
theorem dX1_moveTo_14 : decode cX1_moveTo 14 = .ok (.aload_n 0, 1) := by decide +kernel
theorem dX1_moveTo_15 : decode cX1_moveTo 15 = .ok (.getfield 64, 3) := by decide +kernel
theorem dX1_moveTo_18 : decode cX1_moveTo 18 = .ok (.isub, 1) := by decide +kernel
theorem dX1_moveTo_19 : decode cX1_moveTo 19 = .ok (.iadd, 1) := by decide +kernel
theorem dX1_moveTo_20 : decode cX1_moveTo 20 = .ok (.putfield 67, 3) := by decide +kernel
theorem dX1_moveTo_23 : decode cX1_moveTo 23 = .ok (.aload_n 0, 1) := by decide +kernel
theorem dX1_moveTo_24 : decode cX1_moveTo 24 = .ok (.iconst (-1), 1) := by decide +kernel
theorem dX1_moveTo_25 : decode cX1_moveTo 25 = .ok (.putfield 64, 3) := by decide +kernel
theorem dX1_moveTo_28 : decode cX1_moveTo 28 = .ok (.iload_n 1, 1) := by decide +kernel
theorem dX1_moveTo_29 : decode cX1_moveTo 29 = .ok (.bipush 97, 2) := by decide +kernel
theorem dX1_moveTo_31 : decode cX1_moveTo 31 = .ok (.if_icmp .ne 8, 3) := by decide +kernel
theorem dX1_moveTo_34 : decode cX1_moveTo 34 = .ok (.aload_n 0, 1) := by decide +kernel
theorem dX1_moveTo_35 : decode cX1_moveTo 35 = .ok (.iload_n 2, 1) := by decide +kernel
theorem dX1_moveTo_36 : decode cX1_moveTo 36 = .ok (.putfield 64, 3) := by decide +kernel
theorem dX1_moveTo_39 : decode cX1_moveTo 39 = .ok (.ldc 75, 2) := by decide +kernel
theorem dX1_moveTo_41 : decode cX1_moveTo 41 = .ok (.iload_n 1, 1) := by decide +kernel
theorem dX1_moveTo_42 : decode cX1_moveTo 42 = .ok (.invokevirtual 77, 3) := by decide +kernel
theorem dX1_moveTo_45 : decode cX1_moveTo 45 = .ok (.ifCond .lt 8, 3) := by decide +kernel
theorem dX1_moveTo_48 : decode cX1_moveTo 48 = .ok (.aload_n 0, 1) := by decide +kernel
theorem dX1_moveTo_49 : decode cX1_moveTo 49 = .ok (.iload_n 2, 1) := by decide +kernel
theorem dX1_moveTo_50 : decode cX1_moveTo 50 = .ok (.putfield 61, 3) := by decide +kernel
theorem dX1_moveTo_53 : decode cX1_moveTo 53 = .ok (.aload_n 0, 1) := by decide +kernel
theorem dX1_moveTo_54 : decode cX1_moveTo 54 = .ok (.iload_n 1, 1) := by decide +kernel
theorem dX1_moveTo_55 : decode cX1_moveTo 55 = .ok (.putfield 54, 3) := by decide +kernel
theorem dX1_moveTo_58 : decode cX1_moveTo 58 = .ok (.return_, 1) := by decide +kernel
theorem dX1_daysBy_0 : decode cX1_daysBy 0 = .ok (.aload_n 0, 1) := by decide +kernel
theorem dX1_daysBy_1 : decode cX1_daysBy 1 = .ok (.getfield 61, 3) := by decide +kernel
theorem dX1_daysBy_4 : decode cX1_daysBy 4 = .ok (.iconst (-1), 1) := by decide +kernel
theorem dX1_daysBy_5 : decode cX1_daysBy 5 = .ok (.if_icmp .ne 7, 3) := by decide +kernel
theorem dX1_daysBy_8 : decode cX1_daysBy 8 = .ok (.iload_n 1, 1) := by decide +kernel
theorem dX1_daysBy_9 : decode cX1_daysBy 9 = .ok (.goto 7, 3) := by decide +kernel
theorem dX1_daysBy_12 : decode cX1_daysBy 12 = .ok (.aload_n 0, 1) := by decide +kernel
theorem dX1_daysBy_13 : decode cX1_daysBy 13 = .ok (.getfield 61, 3) := by decide +kernel
theorem dX1_daysBy_16 : decode cX1_daysBy 16 = .ok (.istore_n 2, 1) := by decide +kernel
theorem dX1_daysBy_17 : decode cX1_daysBy 17 = .ok (.aload_n 0, 1) := by decide +kernel
theorem dX1_daysBy_18 : decode cX1_daysBy 18 = .ok (.getfield 64, 3) := by decide +kernel
theorem dX1_daysBy_21 : decode cX1_daysBy 21 = .ok (.iconst (-1), 1) := by decide +kernel
theorem dX1_daysBy_22 : decode cX1_daysBy 22 = .ok (.if_icmp .ne 7, 3) := by decide +kernel
theorem dX1_daysBy_25 : decode cX1_daysBy 25 = .ok (.iconst 0, 1) := by decide +kernel
theorem dX1_daysBy_26 : decode cX1_daysBy 26 = .ok (.goto 9, 3) := by decide +kernel
theorem dX1_daysBy_29 : decode cX1_daysBy 29 = .ok (.iload_n 2, 1) := by decide +kernel
theorem dX1_daysBy_30 : decode cX1_daysBy 30 = .ok (.aload_n 0, 1) := by decide +kernel
theorem dX1_daysBy_31 : decode cX1_daysBy 31 = .ok (.getfield 64, 3) := by decide +kernel
theorem dX1_daysBy_34 : decode cX1_daysBy 34 = .ok (.isub, 1) := by decide +kernel
theorem dX1_daysBy_35 : decode cX1_daysBy 35 = .ok (.istore_n 3, 1) := by decide +kernel
theorem dX1_daysBy_36 : decode cX1_daysBy 36 = .ok (.iload_n 2, 1) := by decide +kernel
theorem dX1_daysBy_37 : decode cX1_daysBy 37 = .ok (.aload_n 0, 1) := by decide +kernel
theorem dX1_daysBy_38 : decode cX1_daysBy 38 = .ok (.getfield 41, 3) := by decide +kernel
theorem dX1_daysBy_41 : decode cX1_daysBy 41 = .ok (.isub, 1) := by decide +kernel
theorem dX1_daysBy_42 : decode cX1_daysBy 42 = .ok (.aload_n 0, 1) := by decide +kernel
theorem dX1_daysBy_43 : decode cX1_daysBy 43 = .ok (.getfield 67, 3) := by decide +kernel
theorem dX1_daysBy_46 : decode cX1_daysBy 46 = .ok (.isub, 1) := by decide +kernel
theorem dX1_daysBy_47 : decode cX1_daysBy 47 = .ok (.iload_n 3, 1) := by decide +kernel
theorem dX1_daysBy_48 : decode cX1_daysBy 48 = .ok (.isub, 1) := by decide +kernel
theorem dX1_daysBy_49 : decode cX1_daysBy 49 = .ok (.ireturn, 1) := by decide +kernel
theorem dX1_matches_0 : decode cX1_matches 0 = .ok (.aload_n 0, 1) := by decide +kernel
theorem dX1_matches_1 : decode cX1_matches 1 = .ok (.aload_n 1, 1) := by decide +kernel
theorem dX1_matches_2 : decode cX1_matches 2 = .ok (.invokevirtual 83, 3) := by decide +kernel
theorem dX1_matches_5 : decode cX1_matches 5 = .ok (.ifCond .eq 90, 3) := by decide +kernel
theorem dX1_matches_8 : decode cX1_matches 8 = .ok (.aload_n 0, 1) := by decide +kernel
theorem dX1_matches_9 : decode cX1_matches 9 = .ok (.getfield 54, 3) := by decide +kernel
theorem dX1_matches_12 : decode cX1_matches 12 = .ok (.aload_n 1, 1) := by decide +kernel
theorem dX1_matches_13 : decode cX1_matches 13 = .ok (.getfield 54, 3) := by decide +kernel
theorem dX1_matches_16 : decode cX1_matches 16 = .ok (.if_icmp .ne 79, 3) := by decide +kernel
theorem dX1_matches_19 : decode cX1_matches 19 = .ok (.aload_n 0, 1) := by decide +kernel
theorem dX1_matches_20 : decode cX1_matches 20 = .ok (.getfield 58, 3) := by decide +kernel
theorem dX1_matches_23 : decode cX1_matches 23 = .ok (.aload_n 1, 1) := by decide +kernel
theorem dX1_matches_24 : decode cX1_matches 24 = .ok (.getfield 58, 3) := by decide +kernel
theorem dX1_matches_27 : decode cX1_matches 27 = .ok (.if_icmp .ne 68, 3) := by decide +kernel
theorem dX1_matches_30 : decode cX1_matches 30 = .ok (.aload_n 0, 1) := by decide +kernel
theorem dX1_matches_31 : decode cX1_matches 31 = .ok (.getfield 61, 3) := by decide +kernel
theorem dX1_matches_34 : decode cX1_matches 34 = .ok (.aload_n 1, 1) := by decide +kernel
theorem dX1_matches_35 : decode cX1_matches 35 = .ok (.getfield 61, 3) := by decide +kernel
theorem dX1_matches_38 : decode cX1_matches 38 = .ok (.if_icmp .ne 57, 3) := by decide +kernel
theorem dX1_matches_41 : decode cX1_matches 41 = .ok (.aload_n 0, 1) := by decide +kernel
theorem dX1_matches_42 : decode cX1_matches 42 = .ok (.getfield 64, 3) := by decide +kernel
theorem dX1_matches_45 : decode cX1_matches 45 = .ok (.aload_n 1, 1) := by decide +kernel
theorem dX1_matches_46 : decode cX1_matches 46 = .ok (.getfield 64, 3) := by decide +kernel
theorem dX1_matches_49 : decode cX1_matches 49 = .ok (.if_icmp .ne 46, 3) := by decide +kernel
theorem dX1_matches_52 : decode cX1_matches 52 = .ok (.aload_n 0, 1) := by decide +kernel
theorem dX1_matches_53 : decode cX1_matches 53 = .ok (.getfield 67, 3) := by decide +kernel
theorem dX1_matches_56 : decode cX1_matches 56 = .ok (.aload_n 1, 1) := by decide +kernel
theorem dX1_matches_57 : decode cX1_matches 57 = .ok (.getfield 67, 3) := by decide +kernel
theorem dX1_matches_60 : decode cX1_matches 60 = .ok (.if_icmp .ne 35, 3) := by decide +kernel
theorem dX1_matches_63 : decode cX1_matches 63 = .ok (.aload_n 0, 1) := by decide +kernel
theorem dX1_matches_64 : decode cX1_matches 64 = .ok (.getfield 12, 3) := by decide +kernel
theorem dX1_matches_67 : decode cX1_matches 67 = .ok (.aload_n 1, 1) := by decide +kernel
theorem dX1_matches_68 : decode cX1_matches 68 = .ok (.getfield 12, 3) := by decide +kernel
theorem dX1_matches_71 : decode cX1_matches 71 = .ok (.invokevirtual 87, 3) := by decide +kernel
theorem dX1_matches_74 : decode cX1_matches 74 = .ok (.ifCond .eq 21, 3) := by decide +kernel
theorem dX1_matches_77 : decode cX1_matches 77 = .ok (.aload_n 0, 1) := by decide +kernel
theorem dX1_matches_78 : decode cX1_matches 78 = .ok (.getfield 21, 3) := by decide +kernel
theorem dX1_matches_81 : decode cX1_matches 81 = .ok (.aload_n 1, 1) := by decide +kernel
theorem dX1_matches_82 : decode cX1_matches 82 = .ok (.getfield 21, 3) := by decide +kernel
theorem dX1_matches_85 : decode cX1_matches 85 = .ok (.invokevirtual 91, 3) := by decide +kernel
theorem dX1_matches_88 : decode cX1_matches 88 = .ok (.ifCond .eq 7, 3) := by decide +kernel
theorem dX1_matches_91 : decode cX1_matches 91 = .ok (.iconst 1, 1) := by decide +kernel
theorem dX1_matches_92 : decode cX1_matches 92 = .ok (.goto 4, 3) := by decide +kernel
theorem dX1_matches_95 : decode cX1_matches 95 = .ok (.iconst 0, 1) := by decide +kernel
theorem dX1_matches_96 : decode cX1_matches 96 = .ok (.ireturn, 1) := by decide +kernel
theorem dX1_matchesAsTold_0 : decode cX1_matchesAsTold 0 = .ok (.aload_n 0, 1) := by decide +kernel
theorem dX1_matchesAsTold_1 : decode cX1_matchesAsTold 1 = .ok (.getfield 29, 3) := by decide +kernel
theorem dX1_matchesAsTold_4 : decode cX1_matchesAsTold 4 = .ok (.aload_n 1, 1) := by decide +kernel
theorem dX1_matchesAsTold_5 : decode cX1_matchesAsTold 5 = .ok (.getfield 29, 3) := by decide +kernel
theorem dX1_matchesAsTold_8 : decode cX1_matchesAsTold 8 = .ok (.if_icmp .ne 84, 3) := by decide +kernel
theorem dX1_matchesAsTold_11 : decode cX1_matchesAsTold 11 = .ok (.aload_n 0, 1) := by decide +kernel
theorem dX1_matchesAsTold_12 : decode cX1_matchesAsTold 12 = .ok (.getfield 32, 3) := by decide +kernel
theorem dX1_matchesAsTold_15 : decode cX1_matchesAsTold 15 = .ok (.aload_n 1, 1) := by decide +kernel
theorem dX1_matchesAsTold_16 : decode cX1_matchesAsTold 16 = .ok (.getfield 32, 3) := by decide +kernel
theorem dX1_matchesAsTold_19 : decode cX1_matchesAsTold 19 = .ok (.if_icmp .ne 73, 3) := by decide +kernel
theorem dX1_matchesAsTold_22 : decode cX1_matchesAsTold 22 = .ok (.aload_n 0, 1) := by decide +kernel
theorem dX1_matchesAsTold_23 : decode cX1_matchesAsTold 23 = .ok (.getfield 35, 3) := by decide +kernel
theorem dX1_matchesAsTold_26 : decode cX1_matchesAsTold 26 = .ok (.aload_n 1, 1) := by decide +kernel
theorem dX1_matchesAsTold_27 : decode cX1_matchesAsTold 27 = .ok (.getfield 35, 3) := by decide +kernel
theorem dX1_matchesAsTold_30 : decode cX1_matchesAsTold 30 = .ok (.if_icmp .ne 62, 3) := by decide +kernel
theorem dX1_matchesAsTold_33 : decode cX1_matchesAsTold 33 = .ok (.aload_n 0, 1) := by decide +kernel
theorem dX1_matchesAsTold_34 : decode cX1_matchesAsTold 34 = .ok (.getfield 38, 3) := by decide +kernel
theorem dX1_matchesAsTold_37 : decode cX1_matchesAsTold 37 = .ok (.aload_n 1, 1) := by decide +kernel
theorem dX1_matchesAsTold_38 : decode cX1_matchesAsTold 38 = .ok (.getfield 38, 3) := by decide +kernel
theorem dX1_matchesAsTold_41 : decode cX1_matchesAsTold 41 = .ok (.if_icmp .ne 51, 3) := by decide +kernel
theorem dX1_matchesAsTold_44 : decode cX1_matchesAsTold 44 = .ok (.aload_n 0, 1) := by decide +kernel
theorem dX1_matchesAsTold_45 : decode cX1_matchesAsTold 45 = .ok (.getfield 41, 3) := by decide +kernel
theorem dX1_matchesAsTold_48 : decode cX1_matchesAsTold 48 = .ok (.aload_n 1, 1) := by decide +kernel
theorem dX1_matchesAsTold_49 : decode cX1_matchesAsTold 49 = .ok (.getfield 41, 3) := by decide +kernel
theorem dX1_matchesAsTold_52 : decode cX1_matchesAsTold 52 = .ok (.if_icmp .ne 40, 3) := by decide +kernel
theorem dX1_matchesAsTold_55 : decode cX1_matchesAsTold 55 = .ok (.aload_n 0, 1) := by decide +kernel
theorem dX1_matchesAsTold_56 : decode cX1_matchesAsTold 56 = .ok (.getfield 44, 3) := by decide +kernel
theorem dX1_matchesAsTold_59 : decode cX1_matchesAsTold 59 = .ok (.aload_n 1, 1) := by decide +kernel
theorem dX1_matchesAsTold_60 : decode cX1_matchesAsTold 60 = .ok (.getfield 44, 3) := by decide +kernel
theorem dX1_matchesAsTold_63 : decode cX1_matchesAsTold 63 = .ok (.if_icmp .ne 29, 3) := by decide +kernel
theorem dX1_matchesAsTold_66 : decode cX1_matchesAsTold 66 = .ok (.aload_n 0, 1) := by decide +kernel
theorem dX1_matchesAsTold_67 : decode cX1_matchesAsTold 67 = .ok (.getfield 48, 3) := by decide +kernel
theorem dX1_matchesAsTold_70 : decode cX1_matchesAsTold 70 = .ok (.aload_n 1, 1) := by decide +kernel
theorem dX1_matchesAsTold_71 : decode cX1_matchesAsTold 71 = .ok (.getfield 48, 3) := by decide +kernel
theorem dX1_matchesAsTold_74 : decode cX1_matchesAsTold 74 = .ok (.if_icmp .ne 18, 3) := by decide +kernel
theorem dX1_matchesAsTold_77 : decode cX1_matchesAsTold 77 = .ok (.aload_n 0, 1) := by decide +kernel
theorem dX1_matchesAsTold_78 : decode cX1_matchesAsTold 78 = .ok (.getfield 51, 3) := by decide +kernel
theorem dX1_matchesAsTold_81 : decode cX1_matchesAsTold 81 = .ok (.aload_n 1, 1) := by decide +kernel
theorem dX1_matchesAsTold_82 : decode cX1_matchesAsTold 82 = .ok (.getfield 51, 3) := by decide +kernel
theorem dX1_matchesAsTold_85 : decode cX1_matchesAsTold 85 = .ok (.if_icmp .ne 7, 3) := by decide +kernel
theorem dX1_matchesAsTold_88 : decode cX1_matchesAsTold 88 = .ok (.iconst 1, 1) := by decide +kernel
theorem dX1_matchesAsTold_89 : decode cX1_matchesAsTold 89 = .ok (.goto 4, 3) := by decide +kernel
theorem dX1_matchesAsTold_92 : decode cX1_matchesAsTold 92 = .ok (.iconst 0, 1) := by decide +kernel
theorem dX1_matchesAsTold_93 : decode cX1_matchesAsTold 93 = .ok (.ireturn, 1) := by decide +kernel
theorem dX2_init_0 : decode cX2_init 0 = .ok (.aload_n 0, 1) := by decide +kernel
theorem dX2_init_1 : decode cX2_init 1 = .ok (.invokespecial 3, 3) := by decide +kernel
theorem dX2_init_4 : decode cX2_init 4 = .ok (.aload_n 0, 1) := by decide +kernel
theorem dX2_init_5 : decode cX2_init 5 = .ok (.sipush 2560, 3) := by decide +kernel
theorem dX2_init_8 : decode cX2_init 8 = .ok (.newarray .int, 2) := by decide +kernel
theorem dX2_init_10 : decode cX2_init 10 = .ok (.putfield 11, 3) := by decide +kernel
theorem dX2_init_13 : decode cX2_init 13 = .ok (.return_, 1) := by decide +kernel
theorem dX2_keep_0 : decode cX2_keep 0 = .ok (.aload_n 0, 1) := by decide +kernel
theorem dX2_keep_1 : decode cX2_keep 1 = .ok (.getfield 15, 3) := by decide +kernel
theorem dX2_keep_4 : decode cX2_keep 4 = .ok (.sipush 512, 3) := by decide +kernel
theorem dX2_keep_7 : decode cX2_keep 7 = .ok (.if_icmp .lt 4, 3) := by decide +kernel
theorem dX2_keep_10 : decode cX2_keep 10 = .ok (.return_, 1) := by decide +kernel
theorem dX2_keep_11 : decode cX2_keep 11 = .ok (.aload_n 0, 1) := by decide +kernel
theorem dX2_keep_12 : decode cX2_keep 12 = .ok (.getfield 15, 3) := by decide +kernel
theorem dX2_keep_15 : decode cX2_keep 15 = .ok (.iconst 5, 1) := by decide +kernel
theorem dX2_keep_16 : decode cX2_keep 16 = .ok (.imul, 1) := by decide +kernel
theorem dX2_keep_17 : decode cX2_keep 17 = .ok (.istore 6, 2) := by decide +kernel
theorem dX2_keep_19 : decode cX2_keep 19 = .ok (.aload_n 0, 1) := by decide +kernel
theorem dX2_keep_20 : decode cX2_keep 20 = .ok (.getfield 11, 3) := by decide +kernel
theorem dX2_keep_23 : decode cX2_keep 23 = .ok (.iload 6, 2) := by decide +kernel
theorem dX2_keep_25 : decode cX2_keep 25 = .ok (.iload_n 1, 1) := by decide +kernel
theorem dX2_keep_26 : decode cX2_keep 26 = .ok (.iastore, 1) := by decide +kernel
theorem dX2_keep_27 : decode cX2_keep 27 = .ok (.aload_n 0, 1) := by decide +kernel
theorem dX2_keep_28 : decode cX2_keep 28 = .ok (.getfield 11, 3) := by decide +kernel
theorem dX2_keep_31 : decode cX2_keep 31 = .ok (.iload 6, 2) := by decide +kernel
theorem dX2_keep_33 : decode cX2_keep 33 = .ok (.iconst 1, 1) := by decide +kernel
theorem dX2_keep_34 : decode cX2_keep 34 = .ok (.iadd, 1) := by decide +kernel
theorem dX2_keep_35 : decode cX2_keep 35 = .ok (.iload_n 2, 1) := by decide +kernel
theorem dX2_keep_36 : decode cX2_keep 36 = .ok (.iastore, 1) := by decide +kernel
theorem dX2_keep_37 : decode cX2_keep 37 = .ok (.aload_n 0, 1) := by decide +kernel
theorem dX2_keep_38 : decode cX2_keep 38 = .ok (.getfield 11, 3) := by decide +kernel
theorem dX2_keep_41 : decode cX2_keep 41 = .ok (.iload 6, 2) := by decide +kernel
theorem dX2_keep_43 : decode cX2_keep 43 = .ok (.iconst 2, 1) := by decide +kernel
theorem dX2_keep_44 : decode cX2_keep 44 = .ok (.iadd, 1) := by decide +kernel
theorem dX2_keep_45 : decode cX2_keep 45 = .ok (.iload_n 3, 1) := by decide +kernel
theorem dX2_keep_46 : decode cX2_keep 46 = .ok (.iastore, 1) := by decide +kernel
theorem dX2_keep_47 : decode cX2_keep 47 = .ok (.aload_n 0, 1) := by decide +kernel
theorem dX2_keep_48 : decode cX2_keep 48 = .ok (.getfield 11, 3) := by decide +kernel
theorem dX2_keep_51 : decode cX2_keep 51 = .ok (.iload 6, 2) := by decide +kernel
theorem dX2_keep_53 : decode cX2_keep 53 = .ok (.iconst 3, 1) := by decide +kernel
theorem dX2_keep_54 : decode cX2_keep 54 = .ok (.iadd, 1) := by decide +kernel
theorem dX2_keep_55 : decode cX2_keep 55 = .ok (.iload 4, 2) := by decide +kernel
theorem dX2_keep_57 : decode cX2_keep 57 = .ok (.iastore, 1) := by decide +kernel
theorem dX2_keep_58 : decode cX2_keep 58 = .ok (.aload_n 0, 1) := by decide +kernel
theorem dX2_keep_59 : decode cX2_keep 59 = .ok (.getfield 11, 3) := by decide +kernel
theorem dX2_keep_62 : decode cX2_keep 62 = .ok (.iload 6, 2) := by decide +kernel
theorem dX2_keep_64 : decode cX2_keep 64 = .ok (.iconst 4, 1) := by decide +kernel
theorem dX2_keep_65 : decode cX2_keep 65 = .ok (.iadd, 1) := by decide +kernel
theorem dX2_keep_66 : decode cX2_keep 66 = .ok (.iload 5, 2) := by decide +kernel
theorem dX2_keep_68 : decode cX2_keep 68 = .ok (.iastore, 1) := by decide +kernel
theorem dX2_keep_69 : decode cX2_keep 69 = .ok (.aload_n 0, 1) := by decide +kernel
theorem dX2_keep_70 : decode cX2_keep 70 = .ok (.dup, 1) := by decide +kernel
theorem dX2_keep_71 : decode cX2_keep 71 = .ok (.getfield 15, 3) := by decide +kernel
theorem dX2_keep_74 : decode cX2_keep 74 = .ok (.iconst 1, 1) := by decide +kernel
theorem dX2_keep_75 : decode cX2_keep 75 = .ok (.iadd, 1) := by decide +kernel
theorem dX2_keep_76 : decode cX2_keep 76 = .ok (.putfield 15, 3) := by decide +kernel
theorem dX2_keep_79 : decode cX2_keep 79 = .ok (.return_, 1) := by decide +kernel
theorem dX2_tellAgain_0 : decode cX2_tellAgain 0 = .ok (.aload_n 1, 1) := by decide +kernel
theorem dX2_tellAgain_1 : decode cX2_tellAgain 1 = .ok (.invokevirtual 19, 3) := by decide +kernel
theorem dX2_tellAgain_4 : decode cX2_tellAgain 4 = .ok (.iconst 0, 1) := by decide +kernel
theorem dX2_tellAgain_5 : decode cX2_tellAgain 5 = .ok (.istore_n 2, 1) := by decide +kernel
theorem dX2_tellAgain_6 : decode cX2_tellAgain 6 = .ok (.iload_n 2, 1) := by decide +kernel
theorem dX2_tellAgain_7 : decode cX2_tellAgain 7 = .ok (.aload_n 0, 1) := by decide +kernel
theorem dX2_tellAgain_8 : decode cX2_tellAgain 8 = .ok (.getfield 15, 3) := by decide +kernel
theorem dX2_tellAgain_11 : decode cX2_tellAgain 11 = .ok (.if_icmp .ge 56, 3) := by decide +kernel
theorem dX2_tellAgain_14 : decode cX2_tellAgain 14 = .ok (.iload_n 2, 1) := by decide +kernel
theorem dX2_tellAgain_15 : decode cX2_tellAgain 15 = .ok (.iconst 5, 1) := by decide +kernel
theorem dX2_tellAgain_16 : decode cX2_tellAgain 16 = .ok (.imul, 1) := by decide +kernel
theorem dX2_tellAgain_17 : decode cX2_tellAgain 17 = .ok (.istore_n 3, 1) := by decide +kernel
theorem dX2_tellAgain_18 : decode cX2_tellAgain 18 = .ok (.aload_n 1, 1) := by decide +kernel
theorem dX2_tellAgain_19 : decode cX2_tellAgain 19 = .ok (.aload_n 0, 1) := by decide +kernel
theorem dX2_tellAgain_20 : decode cX2_tellAgain 20 = .ok (.getfield 11, 3) := by decide +kernel
theorem dX2_tellAgain_23 : decode cX2_tellAgain 23 = .ok (.iload_n 3, 1) := by decide +kernel
theorem dX2_tellAgain_24 : decode cX2_tellAgain 24 = .ok (.iaload, 1) := by decide +kernel
theorem dX2_tellAgain_25 : decode cX2_tellAgain 25 = .ok (.aload_n 0, 1) := by decide +kernel
theorem dX2_tellAgain_26 : decode cX2_tellAgain 26 = .ok (.getfield 11, 3) := by decide +kernel
theorem dX2_tellAgain_29 : decode cX2_tellAgain 29 = .ok (.iload_n 3, 1) := by decide +kernel
theorem dX2_tellAgain_30 : decode cX2_tellAgain 30 = .ok (.iconst 1, 1) := by decide +kernel
theorem dX2_tellAgain_31 : decode cX2_tellAgain 31 = .ok (.iadd, 1) := by decide +kernel
theorem dX2_tellAgain_32 : decode cX2_tellAgain 32 = .ok (.iaload, 1) := by decide +kernel
theorem dX2_tellAgain_33 : decode cX2_tellAgain 33 = .ok (.aload_n 0, 1) := by decide +kernel
theorem dX2_tellAgain_34 : decode cX2_tellAgain 34 = .ok (.getfield 11, 3) := by decide +kernel
theorem dX2_tellAgain_37 : decode cX2_tellAgain 37 = .ok (.iload_n 3, 1) := by decide +kernel
theorem dX2_tellAgain_38 : decode cX2_tellAgain 38 = .ok (.iconst 2, 1) := by decide +kernel
theorem dX2_tellAgain_39 : decode cX2_tellAgain 39 = .ok (.iadd, 1) := by decide +kernel
theorem dX2_tellAgain_40 : decode cX2_tellAgain 40 = .ok (.iaload, 1) := by decide +kernel
theorem dX2_tellAgain_41 : decode cX2_tellAgain 41 = .ok (.aload_n 0, 1) := by decide +kernel
theorem dX2_tellAgain_42 : decode cX2_tellAgain 42 = .ok (.getfield 11, 3) := by decide +kernel
theorem dX2_tellAgain_45 : decode cX2_tellAgain 45 = .ok (.iload_n 3, 1) := by decide +kernel
theorem dX2_tellAgain_46 : decode cX2_tellAgain 46 = .ok (.iconst 3, 1) := by decide +kernel
theorem dX2_tellAgain_47 : decode cX2_tellAgain 47 = .ok (.iadd, 1) := by decide +kernel
theorem dX2_tellAgain_48 : decode cX2_tellAgain 48 = .ok (.iaload, 1) := by decide +kernel
theorem dX2_tellAgain_49 : decode cX2_tellAgain 49 = .ok (.aload_n 0, 1) := by decide +kernel
theorem dX2_tellAgain_50 : decode cX2_tellAgain 50 = .ok (.getfield 11, 3) := by decide +kernel
theorem dX2_tellAgain_53 : decode cX2_tellAgain 53 = .ok (.iload_n 3, 1) := by decide +kernel
theorem dX2_tellAgain_54 : decode cX2_tellAgain 54 = .ok (.iconst 4, 1) := by decide +kernel
theorem dX2_tellAgain_55 : decode cX2_tellAgain 55 = .ok (.iadd, 1) := by decide +kernel
theorem dX2_tellAgain_56 : decode cX2_tellAgain 56 = .ok (.iaload, 1) := by decide +kernel
theorem dX2_tellAgain_57 : decode cX2_tellAgain 57 = .ok (.invokevirtual 24, 3) := by decide +kernel
theorem dX2_tellAgain_60 : decode cX2_tellAgain 60 = .ok (.pop, 1) := by decide +kernel
theorem dX2_tellAgain_61 : decode cX2_tellAgain 61 = .ok (.iinc 2 1, 3) := by decide +kernel
theorem dX2_tellAgain_64 : decode cX2_tellAgain 64 = .ok (.goto (-58), 3) := by decide +kernel
theorem dX2_tellAgain_67 : decode cX2_tellAgain 67 = .ok (.return_, 1) := by decide +kernel
theorem dX3_init_0 : decode cX3_init 0 = .ok (.aload_n 0, 1) := by decide +kernel
theorem dX3_init_1 : decode cX3_init 1 = .ok (.invokespecial 3, 3) := by decide +kernel
theorem dX3_init_4 : decode cX3_init 4 = .ok (.return_, 1) := by decide +kernel
theorem dX3_begin_0 : decode cX3_begin 0 = .ok (.aload_n 0, 1) := by decide +kernel
theorem dX3_begin_1 : decode cX3_begin 1 = .ok (.iload_n 1, 1) := by decide +kernel
theorem dX3_begin_2 : decode cX3_begin 2 = .ok (.putfield 9, 3) := by decide +kernel
theorem dX3_begin_5 : decode cX3_begin 5 = .ok (.aload_n 0, 1) := by decide +kernel
theorem dX3_begin_6 : decode cX3_begin 6 = .ok (.iconst 0, 1) := by decide +kernel
theorem dX3_begin_7 : decode cX3_begin 7 = .ok (.putfield 15, 3) := by decide +kernel
theorem dX3_begin_10 : decode cX3_begin 10 = .ok (.aload_n 0, 1) := by decide +kernel
theorem dX3_begin_11 : decode cX3_begin 11 = .ok (.iconst (-1), 1) := by decide +kernel
theorem dX3_begin_12 : decode cX3_begin 12 = .ok (.putfield 18, 3) := by decide +kernel
theorem dX3_begin_15 : decode cX3_begin 15 = .ok (.aload_n 0, 1) := by decide +kernel
theorem dX3_begin_16 : decode cX3_begin 16 = .ok (.iconst 0, 1) := by decide +kernel
theorem dX3_begin_17 : decode cX3_begin 17 = .ok (.putfield 21, 3) := by decide +kernel
theorem dX3_begin_20 : decode cX3_begin 20 = .ok (.aload_n 0, 1) := by decide +kernel
theorem dX3_begin_21 : decode cX3_begin 21 = .ok (.iconst 0, 1) := by decide +kernel
theorem dX3_begin_22 : decode cX3_begin 22 = .ok (.putfield 25, 3) := by decide +kernel
theorem dX3_begin_25 : decode cX3_begin 25 = .ok (.aload_n 0, 1) := by decide +kernel
theorem dX3_begin_26 : decode cX3_begin 26 = .ok (.iconst 0, 1) := by decide +kernel
theorem dX3_begin_27 : decode cX3_begin 27 = .ok (.putfield 28, 3) := by decide +kernel
theorem dX3_begin_30 : decode cX3_begin 30 = .ok (.return_, 1) := by decide +kernel
theorem dX3_isTold_0 : decode cX3_isTold 0 = .ok (.aload_n 0, 1) := by decide +kernel
theorem dX3_isTold_1 : decode cX3_isTold 1 = .ok (.getfield 9, 3) := by decide +kernel
theorem dX3_isTold_4 : decode cX3_isTold 4 = .ok (.iconst (-1), 1) := by decide +kernel
theorem dX3_isTold_5 : decode cX3_isTold 5 = .ok (.if_icmp .eq 7, 3) := by decide +kernel
theorem dX3_isTold_8 : decode cX3_isTold 8 = .ok (.iconst 1, 1) := by decide +kernel
theorem dX3_isTold_9 : decode cX3_isTold 9 = .ok (.goto 4, 3) := by decide +kernel
theorem dX3_isTold_12 : decode cX3_isTold 12 = .ok (.iconst 0, 1) := by decide +kernel
theorem dX3_isTold_13 : decode cX3_isTold 13 = .ok (.ireturn, 1) := by decide +kernel
theorem dX3_recommend_0 : decode cX3_recommend 0 = .ok (.aload_n 0, 1) := by decide +kernel
theorem dX3_recommend_1 : decode cX3_recommend 1 = .ok (.iload_n 1, 1) := by decide +kernel
theorem dX3_recommend_2 : decode cX3_recommend 2 = .ok (.putfield 15, 3) := by decide +kernel
theorem dX3_recommend_5 : decode cX3_recommend 5 = .ok (.aload_n 0, 1) := by decide +kernel
theorem dX3_recommend_6 : decode cX3_recommend 6 = .ok (.iload_n 2, 1) := by decide +kernel
theorem dX3_recommend_7 : decode cX3_recommend 7 = .ok (.bipush 30, 2) := by decide +kernel
theorem dX3_recommend_9 : decode cX3_recommend 9 = .ok (.iload_n 1, 1) := by decide +kernel
theorem dX3_recommend_10 : decode cX3_recommend 10 = .ok (.imul, 1) := by decide +kernel
theorem dX3_recommend_11 : decode cX3_recommend 11 = .ok (.iadd, 1) := by decide +kernel
theorem dX3_recommend_12 : decode cX3_recommend 12 = .ok (.putfield 18, 3) := by decide +kernel
theorem dX3_recommend_15 : decode cX3_recommend 15 = .ok (.aload_n 0, 1) := by decide +kernel
theorem dX3_recommend_16 : decode cX3_recommend 16 = .ok (.iconst 0, 1) := by decide +kernel
theorem dX3_recommend_17 : decode cX3_recommend 17 = .ok (.putfield 25, 3) := by decide +kernel
theorem dX3_recommend_20 : decode cX3_recommend 20 = .ok (.aload_n 0, 1) := by decide +kernel
theorem dX3_recommend_21 : decode cX3_recommend 21 = .ok (.iconst 0, 1) := by decide +kernel
theorem dX3_recommend_22 : decode cX3_recommend 22 = .ok (.putfield 28, 3) := by decide +kernel
theorem dX3_recommend_25 : decode cX3_recommend 25 = .ok (.return_, 1) := by decide +kernel
theorem dX3_matches_0 : decode cX3_matches 0 = .ok (.aload_n 0, 1) := by decide +kernel
theorem dX3_matches_1 : decode cX3_matches 1 = .ok (.getfield 9, 3) := by decide +kernel
theorem dX3_matches_4 : decode cX3_matches 4 = .ok (.aload_n 1, 1) := by decide +kernel
theorem dX3_matches_5 : decode cX3_matches 5 = .ok (.getfield 9, 3) := by decide +kernel
theorem dX3_matches_8 : decode cX3_matches 8 = .ok (.if_icmp .ne 62, 3) := by decide +kernel
theorem dX3_matches_11 : decode cX3_matches 11 = .ok (.aload_n 0, 1) := by decide +kernel
theorem dX3_matches_12 : decode cX3_matches 12 = .ok (.getfield 15, 3) := by decide +kernel
theorem dX3_matches_15 : decode cX3_matches 15 = .ok (.aload_n 1, 1) := by decide +kernel
theorem dX3_matches_16 : decode cX3_matches 16 = .ok (.getfield 15, 3) := by decide +kernel
theorem dX3_matches_19 : decode cX3_matches 19 = .ok (.if_icmp .ne 51, 3) := by decide +kernel
theorem dX3_matches_22 : decode cX3_matches 22 = .ok (.aload_n 0, 1) := by decide +kernel
theorem dX3_matches_23 : decode cX3_matches 23 = .ok (.getfield 18, 3) := by decide +kernel
theorem dX3_matches_26 : decode cX3_matches 26 = .ok (.aload_n 1, 1) := by decide +kernel
theorem dX3_matches_27 : decode cX3_matches 27 = .ok (.getfield 18, 3) := by decide +kernel
theorem dX3_matches_30 : decode cX3_matches 30 = .ok (.if_icmp .ne 40, 3) := by decide +kernel
theorem dX3_matches_33 : decode cX3_matches 33 = .ok (.aload_n 0, 1) := by decide +kernel
theorem dX3_matches_34 : decode cX3_matches 34 = .ok (.getfield 21, 3) := by decide +kernel
theorem dX3_matches_37 : decode cX3_matches 37 = .ok (.aload_n 1, 1) := by decide +kernel
theorem dX3_matches_38 : decode cX3_matches 38 = .ok (.getfield 21, 3) := by decide +kernel
theorem dX3_matches_41 : decode cX3_matches 41 = .ok (.if_icmp .ne 29, 3) := by decide +kernel
theorem dX3_matches_44 : decode cX3_matches 44 = .ok (.aload_n 0, 1) := by decide +kernel
theorem dX3_matches_45 : decode cX3_matches 45 = .ok (.getfield 25, 3) := by decide +kernel
theorem dX3_matches_48 : decode cX3_matches 48 = .ok (.aload_n 1, 1) := by decide +kernel
theorem dX3_matches_49 : decode cX3_matches 49 = .ok (.getfield 25, 3) := by decide +kernel
theorem dX3_matches_52 : decode cX3_matches 52 = .ok (.if_icmp .ne 18, 3) := by decide +kernel
theorem dX3_matches_55 : decode cX3_matches 55 = .ok (.aload_n 0, 1) := by decide +kernel
theorem dX3_matches_56 : decode cX3_matches 56 = .ok (.getfield 28, 3) := by decide +kernel
theorem dX3_matches_59 : decode cX3_matches 59 = .ok (.aload_n 1, 1) := by decide +kernel
theorem dX3_matches_60 : decode cX3_matches 60 = .ok (.getfield 28, 3) := by decide +kernel
theorem dX3_matches_63 : decode cX3_matches 63 = .ok (.if_icmp .ne 7, 3) := by decide +kernel
theorem dX3_matches_66 : decode cX3_matches 66 = .ok (.iconst 1, 1) := by decide +kernel
theorem dX3_matches_67 : decode cX3_matches 67 = .ok (.goto 4, 3) := by decide +kernel
theorem dX3_matches_70 : decode cX3_matches 70 = .ok (.iconst 0, 1) := by decide +kernel
theorem dX3_matches_71 : decode cX3_matches 71 = .ok (.ireturn, 1) := by decide +kernel
theorem dX4_init_0 : decode cX4_init 0 = .ok (.aload_n 0, 1) := by decide +kernel
theorem dX4_init_1 : decode cX4_init 1 = .ok (.invokespecial 1, 3) := by decide +kernel
theorem dX4_init_4 : decode cX4_init 4 = .ok (.return_, 1) := by decide +kernel
theorem dX4_begin_0 : decode cX4_begin 0 = .ok (.aload_n 0, 1) := by decide +kernel
theorem dX4_begin_1 : decode cX4_begin 1 = .ok (.iload_n 1, 1) := by decide +kernel
theorem dX4_begin_2 : decode cX4_begin 2 = .ok (.putfield 7, 3) := by decide +kernel
theorem dX4_begin_5 : decode cX4_begin 5 = .ok (.aload_n 0, 1) := by decide +kernel
theorem dX4_begin_6 : decode cX4_begin 6 = .ok (.iconst 0, 1) := by decide +kernel
theorem dX4_begin_7 : decode cX4_begin 7 = .ok (.putfield 13, 3) := by decide +kernel
theorem dX4_begin_10 : decode cX4_begin 10 = .ok (.aload_n 0, 1) := by decide +kernel
theorem dX4_begin_11 : decode cX4_begin 11 = .ok (.iconst 0, 1) := by decide +kernel
theorem dX4_begin_12 : decode cX4_begin 12 = .ok (.putfield 17, 3) := by decide +kernel
theorem dX4_begin_15 : decode cX4_begin 15 = .ok (.aload_n 0, 1) := by decide +kernel
theorem dX4_begin_16 : decode cX4_begin 16 = .ok (.iconst 0, 1) := by decide +kernel
theorem dX4_begin_17 : decode cX4_begin 17 = .ok (.putfield 20, 3) := by decide +kernel
theorem dX4_begin_20 : decode cX4_begin 20 = .ok (.return_, 1) := by decide +kernel
theorem dX4_matches_0 : decode cX4_matches 0 = .ok (.aload_n 0, 1) := by decide +kernel
theorem dX4_matches_1 : decode cX4_matches 1 = .ok (.getfield 7, 3) := by decide +kernel
theorem dX4_matches_4 : decode cX4_matches 4 = .ok (.aload_n 1, 1) := by decide +kernel
theorem dX4_matches_5 : decode cX4_matches 5 = .ok (.getfield 7, 3) := by decide +kernel
theorem dX4_matches_8 : decode cX4_matches 8 = .ok (.if_icmp .ne 40, 3) := by decide +kernel
theorem dX4_matches_11 : decode cX4_matches 11 = .ok (.aload_n 0, 1) := by decide +kernel
theorem dX4_matches_12 : decode cX4_matches 12 = .ok (.getfield 13, 3) := by decide +kernel
theorem dX4_matches_15 : decode cX4_matches 15 = .ok (.aload_n 1, 1) := by decide +kernel
theorem dX4_matches_16 : decode cX4_matches 16 = .ok (.getfield 13, 3) := by decide +kernel
theorem dX4_matches_19 : decode cX4_matches 19 = .ok (.if_icmp .ne 29, 3) := by decide +kernel
theorem dX4_matches_22 : decode cX4_matches 22 = .ok (.aload_n 0, 1) := by decide +kernel
theorem dX4_matches_23 : decode cX4_matches 23 = .ok (.getfield 17, 3) := by decide +kernel
theorem dX4_matches_26 : decode cX4_matches 26 = .ok (.aload_n 1, 1) := by decide +kernel
theorem dX4_matches_27 : decode cX4_matches 27 = .ok (.getfield 17, 3) := by decide +kernel
theorem dX4_matches_30 : decode cX4_matches 30 = .ok (.if_icmp .ne 18, 3) := by decide +kernel
theorem dX4_matches_33 : decode cX4_matches 33 = .ok (.aload_n 0, 1) := by decide +kernel
theorem dX4_matches_34 : decode cX4_matches 34 = .ok (.getfield 20, 3) := by decide +kernel
theorem dX4_matches_37 : decode cX4_matches 37 = .ok (.aload_n 1, 1) := by decide +kernel
theorem dX4_matches_38 : decode cX4_matches 38 = .ok (.getfield 20, 3) := by decide +kernel
theorem dX4_matches_41 : decode cX4_matches 41 = .ok (.if_icmp .ne 7, 3) := by decide +kernel
theorem dX4_matches_44 : decode cX4_matches 44 = .ok (.iconst 1, 1) := by decide +kernel
theorem dX4_matches_45 : decode cX4_matches 45 = .ok (.goto 4, 3) := by decide +kernel
theorem dX4_matches_48 : decode cX4_matches 48 = .ok (.iconst 0, 1) := by decide +kernel
theorem dX4_matches_49 : decode cX4_matches 49 = .ok (.ireturn, 1) := by decide +kernel
theorem dX5_init_0 : decode cX5_init 0 = .ok (.aload_n 0, 1) := by decide +kernel
theorem dX5_init_1 : decode cX5_init 1 = .ok (.invokespecial 1, 3) := by decide +kernel
theorem dX5_init_4 : decode cX5_init 4 = .ok (.return_, 1) := by decide +kernel
theorem dX5_begin_0 : decode cX5_begin 0 = .ok (.aload_n 0, 1) := by decide +kernel
theorem dX5_begin_1 : decode cX5_begin 1 = .ok (.iload_n 1, 1) := by decide +kernel
theorem dX5_begin_2 : decode cX5_begin 2 = .ok (.putfield 7, 3) := by decide +kernel
theorem dX5_begin_5 : decode cX5_begin 5 = .ok (.aload_n 0, 1) := by decide +kernel
theorem dX5_begin_6 : decode cX5_begin 6 = .ok (.iload_n 2, 1) := by decide +kernel
theorem dX5_begin_7 : decode cX5_begin 7 = .ok (.putfield 13, 3) := by decide +kernel
theorem dX5_begin_10 : decode cX5_begin 10 = .ok (.aload_n 0, 1) := by decide +kernel
theorem dX5_begin_11 : decode cX5_begin 11 = .ok (.iconst 0, 1) := by decide +kernel
theorem dX5_begin_12 : decode cX5_begin 12 = .ok (.putfield 16, 3) := by decide +kernel
theorem dX5_begin_15 : decode cX5_begin 15 = .ok (.aload_n 0, 1) := by decide +kernel
theorem dX5_begin_16 : decode cX5_begin 16 = .ok (.iconst 0, 1) := by decide +kernel
theorem dX5_begin_17 : decode cX5_begin 17 = .ok (.putfield 19, 3) := by decide +kernel
theorem dX5_begin_20 : decode cX5_begin 20 = .ok (.return_, 1) := by decide +kernel
theorem dX5_matches_0 : decode cX5_matches 0 = .ok (.aload_n 0, 1) := by decide +kernel
theorem dX5_matches_1 : decode cX5_matches 1 = .ok (.getfield 7, 3) := by decide +kernel
theorem dX5_matches_4 : decode cX5_matches 4 = .ok (.aload_n 1, 1) := by decide +kernel
theorem dX5_matches_5 : decode cX5_matches 5 = .ok (.getfield 7, 3) := by decide +kernel
theorem dX5_matches_8 : decode cX5_matches 8 = .ok (.if_icmp .ne 40, 3) := by decide +kernel
theorem dX5_matches_11 : decode cX5_matches 11 = .ok (.aload_n 0, 1) := by decide +kernel
theorem dX5_matches_12 : decode cX5_matches 12 = .ok (.getfield 13, 3) := by decide +kernel
theorem dX5_matches_15 : decode cX5_matches 15 = .ok (.aload_n 1, 1) := by decide +kernel
theorem dX5_matches_16 : decode cX5_matches 16 = .ok (.getfield 13, 3) := by decide +kernel
theorem dX5_matches_19 : decode cX5_matches 19 = .ok (.if_icmp .ne 29, 3) := by decide +kernel
theorem dX5_matches_22 : decode cX5_matches 22 = .ok (.aload_n 0, 1) := by decide +kernel
theorem dX5_matches_23 : decode cX5_matches 23 = .ok (.getfield 16, 3) := by decide +kernel
theorem dX5_matches_26 : decode cX5_matches 26 = .ok (.aload_n 1, 1) := by decide +kernel
theorem dX5_matches_27 : decode cX5_matches 27 = .ok (.getfield 16, 3) := by decide +kernel
theorem dX5_matches_30 : decode cX5_matches 30 = .ok (.if_icmp .ne 18, 3) := by decide +kernel
theorem dX5_matches_33 : decode cX5_matches 33 = .ok (.aload_n 0, 1) := by decide +kernel
theorem dX5_matches_34 : decode cX5_matches 34 = .ok (.getfield 19, 3) := by decide +kernel
theorem dX5_matches_37 : decode cX5_matches 37 = .ok (.aload_n 1, 1) := by decide +kernel
theorem dX5_matches_38 : decode cX5_matches 38 = .ok (.getfield 19, 3) := by decide +kernel
theorem dX5_matches_41 : decode cX5_matches 41 = .ok (.if_icmp .ne 7, 3) := by decide +kernel
theorem dX5_matches_44 : decode cX5_matches 44 = .ok (.iconst 1, 1) := by decide +kernel
theorem dX5_matches_45 : decode cX5_matches 45 = .ok (.goto 4, 3) := by decide +kernel
theorem dX5_matches_48 : decode cX5_matches 48 = .ok (.iconst 0, 1) := by decide +kernel
theorem dX5_matches_49 : decode cX5_matches 49 = .ok (.ireturn, 1) := by decide +kernel
theorem dX6_init_0 : decode cX6_init 0 = .ok (.aload_n 0, 1) := by decide +kernel
theorem dX6_init_1 : decode cX6_init 1 = .ok (.invokespecial 1, 3) := by decide +kernel
theorem dX6_init_4 : decode cX6_init 4 = .ok (.aload_n 0, 1) := by decide +kernel
theorem dX6_init_5 : decode cX6_init 5 = .ok (.new 7, 3) := by decide +kernel
theorem dX6_init_8 : decode cX6_init 8 = .ok (.dup, 1) := by decide +kernel
theorem dX6_init_9 : decode cX6_init 9 = .ok (.invokespecial 9, 3) := by decide +kernel
theorem dX6_init_12 : decode cX6_init 12 = .ok (.putfield 10, 3) := by decide +kernel
theorem dX6_init_15 : decode cX6_init 15 = .ok (.aload_n 0, 1) := by decide +kernel
theorem dX6_init_16 : decode cX6_init 16 = .ok (.new 7, 3) := by decide +kernel
theorem dX6_init_19 : decode cX6_init 19 = .ok (.dup, 1) := by decide +kernel
theorem dX6_init_20 : decode cX6_init 20 = .ok (.invokespecial 9, 3) := by decide +kernel
theorem dX6_init_23 : decode cX6_init 23 = .ok (.putfield 16, 3) := by decide +kernel
theorem dX6_init_26 : decode cX6_init 26 = .ok (.aload_n 0, 1) := by decide +kernel
theorem dX6_init_27 : decode cX6_init 27 = .ok (.new 19, 3) := by decide +kernel
theorem dX6_init_30 : decode cX6_init 30 = .ok (.dup, 1) := by decide +kernel
theorem dX6_init_31 : decode cX6_init 31 = .ok (.invokespecial 21, 3) := by decide +kernel
theorem dX6_init_34 : decode cX6_init 34 = .ok (.putfield 22, 3) := by decide +kernel
theorem dX6_init_37 : decode cX6_init 37 = .ok (.return_, 1) := by decide +kernel
theorem dX6_addOffice_0 : decode cX6_addOffice 0 = .ok (.aload_n 0, 1) := by decide +kernel
theorem dX6_addOffice_1 : decode cX6_addOffice 1 = .ok (.iload_n 1, 1) := by decide +kernel
theorem dX6_addOffice_2 : decode cX6_addOffice 2 = .ok (.iconst 1, 1) := by decide +kernel
theorem dX6_addOffice_3 : decode cX6_addOffice 3 = .ok (.bipush 60, 2) := by decide +kernel
theorem dX6_addOffice_5 : decode cX6_addOffice 5 = .ok (.invokevirtual 26, 3) := by decide +kernel
theorem dX6_addOffice_8 : decode cX6_addOffice 8 = .ok (.aload_n 0, 1) := by decide +kernel
theorem dX6_addOffice_9 : decode cX6_addOffice 9 = .ok (.iload_n 2, 1) := by decide +kernel
theorem dX6_addOffice_10 : decode cX6_addOffice 10 = .ok (.iconst 0, 1) := by decide +kernel
theorem dX6_addOffice_11 : decode cX6_addOffice 11 = .ok (.sipush 1023, 3) := by decide +kernel
theorem dX6_addOffice_14 : decode cX6_addOffice 14 = .ok (.invokevirtual 26, 3) := by decide +kernel
theorem dX6_addOffice_17 : decode cX6_addOffice 17 = .ok (.aload_n 0, 1) := by decide +kernel
theorem dX6_addOffice_18 : decode cX6_addOffice 18 = .ok (.getfield 10, 3) := by decide +kernel
theorem dX6_addOffice_21 : decode cX6_addOffice 21 = .ok (.getfield 30, 3) := by decide +kernel
theorem dX6_addOffice_24 : decode cX6_addOffice 24 = .ok (.bipush 6, 2) := by decide +kernel
theorem dX6_addOffice_26 : decode cX6_addOffice 26 = .ok (.if_icmp .lt 13, 3) := by decide +kernel
theorem dX6_addOffice_29 : decode cX6_addOffice 29 = .ok (.new 34, 3) := by decide +kernel
theorem dX6_addOffice_32 : decode cX6_addOffice 32 = .ok (.dup, 1) := by decide +kernel
theorem dX6_addOffice_33 : decode cX6_addOffice 33 = .ok (.ldc 36, 2) := by decide +kernel
theorem dX6_addOffice_35 : decode cX6_addOffice 35 = .ok (.invokespecial 38, 3) := by decide +kernel
theorem dX6_addOffice_38 : decode cX6_addOffice 38 = .ok (.athrow, 1) := by decide +kernel
theorem dX6_addOffice_39 : decode cX6_addOffice 39 = .ok (.aload_n 0, 1) := by decide +kernel
theorem dX6_addOffice_40 : decode cX6_addOffice 40 = .ok (.iconst 1, 1) := by decide +kernel
theorem dX6_addOffice_41 : decode cX6_addOffice 41 = .ok (.iload_n 1, 1) := by decide +kernel
theorem dX6_addOffice_42 : decode cX6_addOffice 42 = .ok (.iload_n 2, 1) := by decide +kernel
theorem dX6_addOffice_43 : decode cX6_addOffice 43 = .ok (.invokevirtual 41, 3) := by decide +kernel
theorem dX6_addOffice_46 : decode cX6_addOffice 46 = .ok (.ireturn, 1) := by decide +kernel
theorem dX6_pass_0 : decode cX6_pass 0 = .ok (.aload_n 0, 1) := by decide +kernel
theorem dX6_pass_1 : decode cX6_pass 1 = .ok (.iload_n 1, 1) := by decide +kernel
theorem dX6_pass_2 : decode cX6_pass 2 = .ok (.iconst 1, 1) := by decide +kernel
theorem dX6_pass_3 : decode cX6_pass 3 = .ok (.sipush 400, 3) := by decide +kernel
theorem dX6_pass_6 : decode cX6_pass 6 = .ok (.invokevirtual 26, 3) := by decide +kernel
theorem dX6_pass_9 : decode cX6_pass 9 = .ok (.aload_n 0, 1) := by decide +kernel
theorem dX6_pass_10 : decode cX6_pass 10 = .ok (.getfield 10, 3) := by decide +kernel
theorem dX6_pass_13 : decode cX6_pass 13 = .ok (.getfield 45, 3) := by decide +kernel
theorem dX6_pass_16 : decode cX6_pass 16 = .ok (.iload_n 1, 1) := by decide +kernel
theorem dX6_pass_17 : decode cX6_pass 17 = .ok (.iadd, 1) := by decide +kernel
theorem dX6_pass_18 : decode cX6_pass 18 = .ok (.sipush 9999, 3) := by decide +kernel
theorem dX6_pass_21 : decode cX6_pass 21 = .ok (.if_icmp .le 13, 3) := by decide +kernel
theorem dX6_pass_24 : decode cX6_pass 24 = .ok (.new 34, 3) := by decide +kernel
theorem dX6_pass_27 : decode cX6_pass 27 = .ok (.dup, 1) := by decide +kernel
theorem dX6_pass_28 : decode cX6_pass 28 = .ok (.ldc 48, 2) := by decide +kernel
theorem dX6_pass_30 : decode cX6_pass 30 = .ok (.invokespecial 38, 3) := by decide +kernel
theorem dX6_pass_33 : decode cX6_pass 33 = .ok (.athrow, 1) := by decide +kernel
theorem dX6_pass_34 : decode cX6_pass 34 = .ok (.aload_n 0, 1) := by decide +kernel
theorem dX6_pass_35 : decode cX6_pass 35 = .ok (.iconst 2, 1) := by decide +kernel
theorem dX6_pass_36 : decode cX6_pass 36 = .ok (.iload_n 1, 1) := by decide +kernel
theorem dX6_pass_37 : decode cX6_pass 37 = .ok (.iconst 0, 1) := by decide +kernel
theorem dX6_pass_38 : decode cX6_pass 38 = .ok (.invokevirtual 41, 3) := by decide +kernel
theorem dX6_pass_41 : decode cX6_pass 41 = .ok (.ireturn, 1) := by decide +kernel
theorem dX6_today_0 : decode cX6_today 0 = .ok (.aload_n 0, 1) := by decide +kernel
theorem dX6_today_1 : decode cX6_today 1 = .ok (.getfield 10, 3) := by decide +kernel
theorem dX6_today_4 : decode cX6_today 4 = .ok (.getfield 45, 3) := by decide +kernel
theorem dX6_today_7 : decode cX6_today 7 = .ok (.ireturn, 1) := by decide +kernel
theorem dX6_complain_0 : decode cX6_complain 0 = .ok (.aload_n 0, 1) := by decide +kernel
theorem dX6_complain_1 : decode cX6_complain 1 = .ok (.iload_n 1, 1) := by decide +kernel
theorem dX6_complain_2 : decode cX6_complain 2 = .ok (.invokevirtual 50, 3) := by decide +kernel
theorem dX6_complain_5 : decode cX6_complain 5 = .ok (.aload_n 0, 1) := by decide +kernel
theorem dX6_complain_6 : decode cX6_complain 6 = .ok (.iload_n 2, 1) := by decide +kernel
theorem dX6_complain_7 : decode cX6_complain 7 = .ok (.iconst 0, 1) := by decide +kernel
theorem dX6_complain_8 : decode cX6_complain 8 = .ok (.bipush 9, 2) := by decide +kernel
theorem dX6_complain_10 : decode cX6_complain 10 = .ok (.invokevirtual 26, 3) := by decide +kernel
theorem dX6_complain_13 : decode cX6_complain 13 = .ok (.aload_n 0, 1) := by decide +kernel
theorem dX6_complain_14 : decode cX6_complain 14 = .ok (.iload_n 3, 1) := by decide +kernel
theorem dX6_complain_15 : decode cX6_complain 15 = .ok (.iconst 0, 1) := by decide +kernel
theorem dX6_complain_16 : decode cX6_complain 16 = .ok (.bipush 49, 2) := by decide +kernel
theorem dX6_complain_18 : decode cX6_complain 18 = .ok (.invokevirtual 26, 3) := by decide +kernel
theorem dX6_complain_21 : decode cX6_complain 21 = .ok (.aload_n 0, 1) := by decide +kernel
theorem dX6_complain_22 : decode cX6_complain 22 = .ok (.iload 4, 2) := by decide +kernel
theorem dX6_complain_24 : decode cX6_complain 24 = .ok (.iconst 0, 1) := by decide +kernel
theorem dX6_complain_25 : decode cX6_complain 25 = .ok (.aload_n 0, 1) := by decide +kernel
theorem dX6_complain_26 : decode cX6_complain 26 = .ok (.getfield 10, 3) := by decide +kernel
theorem dX6_complain_29 : decode cX6_complain 29 = .ok (.getfield 45, 3) := by decide +kernel
theorem dX6_complain_32 : decode cX6_complain 32 = .ok (.invokevirtual 26, 3) := by decide +kernel
theorem dX6_complain_35 : decode cX6_complain 35 = .ok (.aload_n 0, 1) := by decide +kernel
theorem dX6_complain_36 : decode cX6_complain 36 = .ok (.getfield 10, 3) := by decide +kernel
theorem dX6_complain_39 : decode cX6_complain 39 = .ok (.getfield 54, 3) := by decide +kernel
theorem dX6_complain_42 : decode cX6_complain 42 = .ok (.bipush 20, 2) := by decide +kernel
theorem dX6_complain_44 : decode cX6_complain 44 = .ok (.if_icmp .lt 13, 3) := by decide +kernel
theorem dX6_complain_47 : decode cX6_complain 47 = .ok (.new 34, 3) := by decide +kernel
theorem dX6_complain_50 : decode cX6_complain 50 = .ok (.dup, 1) := by decide +kernel
theorem dX6_complain_51 : decode cX6_complain 51 = .ok (.ldc 57, 2) := by decide +kernel
theorem dX6_complain_53 : decode cX6_complain 53 = .ok (.invokespecial 38, 3) := by decide +kernel
theorem dX6_complain_56 : decode cX6_complain 56 = .ok (.athrow, 1) := by decide +kernel
theorem dX6_complain_57 : decode cX6_complain 57 = .ok (.aload_n 0, 1) := by decide +kernel
theorem dX6_complain_58 : decode cX6_complain 58 = .ok (.getfield 22, 3) := by decide +kernel
theorem dX6_complain_61 : decode cX6_complain 61 = .ok (.iconst 4, 1) := by decide +kernel
theorem dX6_complain_62 : decode cX6_complain 62 = .ok (.iload_n 1, 1) := by decide +kernel
theorem dX6_complain_63 : decode cX6_complain 63 = .ok (.iload_n 2, 1) := by decide +kernel
theorem dX6_complain_64 : decode cX6_complain 64 = .ok (.iload_n 3, 1) := by decide +kernel
theorem dX6_complain_65 : decode cX6_complain 65 = .ok (.iload 4, 2) := by decide +kernel
theorem dX6_complain_67 : decode cX6_complain 67 = .ok (.invokevirtual 59, 3) := by decide +kernel
theorem dX6_complain_70 : decode cX6_complain 70 = .ok (.aload_n 0, 1) := by decide +kernel
theorem dX6_complain_71 : decode cX6_complain 71 = .ok (.getfield 10, 3) := by decide +kernel
theorem dX6_complain_74 : decode cX6_complain 74 = .ok (.iconst 4, 1) := by decide +kernel
theorem dX6_complain_75 : decode cX6_complain 75 = .ok (.iload_n 1, 1) := by decide +kernel
theorem dX6_complain_76 : decode cX6_complain 76 = .ok (.iload_n 2, 1) := by decide +kernel
theorem dX6_complain_77 : decode cX6_complain 77 = .ok (.iload_n 3, 1) := by decide +kernel
theorem dX6_complain_78 : decode cX6_complain 78 = .ok (.iload 4, 2) := by decide +kernel
theorem dX6_complain_80 : decode cX6_complain 80 = .ok (.invokevirtual 63, 3) := by decide +kernel
theorem dX6_complain_83 : decode cX6_complain 83 = .ok (.ireturn, 1) := by decide +kernel
theorem dX6_setCourt_0 : decode cX6_setCourt 0 = .ok (.aload_n 0, 1) := by decide +kernel
theorem dX6_setCourt_1 : decode cX6_setCourt 1 = .ok (.aload_n 0, 1) := by decide +kernel
theorem dX6_setCourt_2 : decode cX6_setCourt 2 = .ok (.iload_n 1, 1) := by decide +kernel
theorem dX6_setCourt_3 : decode cX6_setCourt 3 = .ok (.invokevirtual 67, 3) := by decide +kernel
theorem dX6_setCourt_6 : decode cX6_setCourt 6 = .ok (.invokevirtual 71, 3) := by decide +kernel
theorem dX6_setCourt_9 : decode cX6_setCourt 9 = .ok (.aload_n 0, 1) := by decide +kernel
theorem dX6_setCourt_10 : decode cX6_setCourt 10 = .ok (.iconst 5, 1) := by decide +kernel
theorem dX6_setCourt_11 : decode cX6_setCourt 11 = .ok (.iload_n 1, 1) := by decide +kernel
theorem dX6_setCourt_12 : decode cX6_setCourt 12 = .ok (.iload_n 2, 1) := by decide +kernel
theorem dX6_setCourt_13 : decode cX6_setCourt 13 = .ok (.ifCond .eq 7, 3) := by decide +kernel
theorem dX6_setCourt_16 : decode cX6_setCourt 16 = .ok (.iconst 1, 1) := by decide +kernel
theorem dX6_setCourt_17 : decode cX6_setCourt 17 = .ok (.goto 4, 3) := by decide +kernel
theorem dX6_setCourt_20 : decode cX6_setCourt 20 = .ok (.iconst 0, 1) := by decide +kernel
theorem dX6_setCourt_21 : decode cX6_setCourt 21 = .ok (.invokevirtual 41, 3) := by decide +kernel
theorem dX6_setCourt_24 : decode cX6_setCourt 24 = .ok (.iconst 1, 1) := by decide +kernel
theorem dX6_setCourt_25 : decode cX6_setCourt 25 = .ok (.if_icmp .ne 7, 3) := by decide +kernel
theorem dX6_setCourt_28 : decode cX6_setCourt 28 = .ok (.iconst 1, 1) := by decide +kernel
theorem dX6_setCourt_29 : decode cX6_setCourt 29 = .ok (.goto 4, 3) := by decide +kernel
theorem dX6_setCourt_32 : decode cX6_setCourt 32 = .ok (.iconst 0, 1) := by decide +kernel
theorem dX6_setCourt_33 : decode cX6_setCourt 33 = .ok (.ireturn, 1) := by decide +kernel
theorem dX6_excuse_0 : decode cX6_excuse 0 = .ok (.aload_n 0, 1) := by decide +kernel
theorem dX6_excuse_1 : decode cX6_excuse 1 = .ok (.aload_n 0, 1) := by decide +kernel
theorem dX6_excuse_2 : decode cX6_excuse 2 = .ok (.iload_n 1, 1) := by decide +kernel
theorem dX6_excuse_3 : decode cX6_excuse 3 = .ok (.invokevirtual 67, 3) := by decide +kernel
theorem dX6_excuse_6 : decode cX6_excuse 6 = .ok (.invokevirtual 71, 3) := by decide +kernel
theorem dX6_excuse_9 : decode cX6_excuse 9 = .ok (.aload_n 0, 1) := by decide +kernel
theorem dX6_excuse_10 : decode cX6_excuse 10 = .ok (.bipush 6, 2) := by decide +kernel
theorem dX6_excuse_12 : decode cX6_excuse 12 = .ok (.iload_n 1, 1) := by decide +kernel
theorem dX6_excuse_13 : decode cX6_excuse 13 = .ok (.iconst 0, 1) := by decide +kernel
theorem dX6_excuse_14 : decode cX6_excuse 14 = .ok (.invokevirtual 41, 3) := by decide +kernel
theorem dX6_excuse_17 : decode cX6_excuse 17 = .ok (.iconst 1, 1) := by decide +kernel
theorem dX6_excuse_18 : decode cX6_excuse 18 = .ok (.if_icmp .ne 7, 3) := by decide +kernel
theorem dX6_excuse_21 : decode cX6_excuse 21 = .ok (.iconst 1, 1) := by decide +kernel
theorem dX6_excuse_22 : decode cX6_excuse 22 = .ok (.goto 4, 3) := by decide +kernel
theorem dX6_excuse_25 : decode cX6_excuse 25 = .ok (.iconst 0, 1) := by decide +kernel
theorem dX6_excuse_26 : decode cX6_excuse 26 = .ok (.ireturn, 1) := by decide +kernel
theorem dX6_takeStep_0 : decode cX6_takeStep 0 = .ok (.aload_n 0, 1) := by decide +kernel
theorem dX6_takeStep_1 : decode cX6_takeStep 1 = .ok (.iload_n 1, 1) := by decide +kernel
theorem dX6_takeStep_2 : decode cX6_takeStep 2 = .ok (.invokevirtual 67, 3) := by decide +kernel
theorem dX6_takeStep_5 : decode cX6_takeStep 5 = .ok (.astore_n 2, 1) := by decide +kernel
theorem dX6_takeStep_6 : decode cX6_takeStep 6 = .ok (.aload_n 0, 1) := by decide +kernel
theorem dX6_takeStep_7 : decode cX6_takeStep 7 = .ok (.aload_n 2, 1) := by decide +kernel
theorem dX6_takeStep_8 : decode cX6_takeStep 8 = .ok (.invokevirtual 71, 3) := by decide +kernel
theorem dX6_takeStep_11 : decode cX6_takeStep 11 = .ok (.aload_n 2, 1) := by decide +kernel
theorem dX6_takeStep_12 : decode cX6_takeStep 12 = .ok (.getfield 75, 3) := by decide +kernel
theorem dX6_takeStep_15 : decode cX6_takeStep 15 = .ok (.iconst (-1), 1) := by decide +kernel
theorem dX6_takeStep_16 : decode cX6_takeStep 16 = .ok (.if_icmp .eq 13, 3) := by decide +kernel
theorem dX6_takeStep_19 : decode cX6_takeStep 19 = .ok (.new 80, 3) := by decide +kernel
theorem dX6_takeStep_22 : decode cX6_takeStep 22 = .ok (.dup, 1) := by decide +kernel
theorem dX6_takeStep_23 : decode cX6_takeStep 23 = .ok (.ldc 82, 2) := by decide +kernel
theorem dX6_takeStep_25 : decode cX6_takeStep 25 = .ok (.invokespecial 84, 3) := by decide +kernel
theorem dX6_takeStep_28 : decode cX6_takeStep 28 = .ok (.athrow, 1) := by decide +kernel
theorem dX6_takeStep_29 : decode cX6_takeStep 29 = .ok (.aload_n 0, 1) := by decide +kernel
theorem dX6_takeStep_30 : decode cX6_takeStep 30 = .ok (.bipush 7, 2) := by decide +kernel
theorem dX6_takeStep_32 : decode cX6_takeStep 32 = .ok (.iload_n 1, 1) := by decide +kernel
theorem dX6_takeStep_33 : decode cX6_takeStep 33 = .ok (.iconst 0, 1) := by decide +kernel
theorem dX6_takeStep_34 : decode cX6_takeStep 34 = .ok (.invokevirtual 41, 3) := by decide +kernel
theorem dX6_takeStep_37 : decode cX6_takeStep 37 = .ok (.ireturn, 1) := by decide +kernel
theorem dX6_examine_0 : decode cX6_examine 0 = .ok (.aload_n 0, 1) := by decide +kernel
theorem dX6_examine_1 : decode cX6_examine 1 = .ok (.aload_n 0, 1) := by decide +kernel
theorem dX6_examine_2 : decode cX6_examine 2 = .ok (.iload_n 1, 1) := by decide +kernel
theorem dX6_examine_3 : decode cX6_examine 3 = .ok (.invokevirtual 67, 3) := by decide +kernel
theorem dX6_examine_6 : decode cX6_examine 6 = .ok (.invokevirtual 71, 3) := by decide +kernel
theorem dX6_examine_9 : decode cX6_examine 9 = .ok (.aload_n 0, 1) := by decide +kernel
theorem dX6_examine_10 : decode cX6_examine 10 = .ok (.bipush 8, 2) := by decide +kernel
theorem dX6_examine_12 : decode cX6_examine 12 = .ok (.iload_n 1, 1) := by decide +kernel
theorem dX6_examine_13 : decode cX6_examine 13 = .ok (.iconst 0, 1) := by decide +kernel
theorem dX6_examine_14 : decode cX6_examine 14 = .ok (.invokevirtual 41, 3) := by decide +kernel
theorem dX6_examine_17 : decode cX6_examine 17 = .ok (.i2c, 1) := by decide +kernel
theorem dX6_examine_18 : decode cX6_examine 18 = .ok (.ireturn, 1) := by decide +kernel
theorem dX6_state_0 : decode cX6_state 0 = .ok (.aload_n 0, 1) := by decide +kernel
theorem dX6_state_1 : decode cX6_state 1 = .ok (.iload_n 1, 1) := by decide +kernel
theorem dX6_state_2 : decode cX6_state 2 = .ok (.invokevirtual 67, 3) := by decide +kernel
theorem dX6_state_5 : decode cX6_state 5 = .ok (.getfield 85, 3) := by decide +kernel
theorem dX6_state_8 : decode cX6_state 8 = .ok (.ireturn, 1) := by decide +kernel
theorem dX6_countState_0 : decode cX6_countState 0 = .ok (.ldc 89, 2) := by decide +kernel
theorem dX6_countState_2 : decode cX6_countState 2 = .ok (.iload_n 1, 1) := by decide +kernel
theorem dX6_countState_3 : decode cX6_countState 3 = .ok (.invokevirtual 91, 3) := by decide +kernel
theorem dX6_countState_6 : decode cX6_countState 6 = .ok (.ifCond .ge 13, 3) := by decide +kernel
theorem dX6_countState_9 : decode cX6_countState 9 = .ok (.new 97, 3) := by decide +kernel
theorem dX6_countState_12 : decode cX6_countState 12 = .ok (.dup, 1) := by decide +kernel
theorem dX6_countState_13 : decode cX6_countState 13 = .ok (.ldc 99, 2) := by decide +kernel
theorem dX6_countState_15 : decode cX6_countState 15 = .ok (.invokespecial 101, 3) := by decide +kernel
theorem dX6_countState_18 : decode cX6_countState 18 = .ok (.athrow, 1) := by decide +kernel
theorem dX6_countState_19 : decode cX6_countState 19 = .ok (.aload_n 0, 1) := by decide +kernel
theorem dX6_countState_20 : decode cX6_countState 20 = .ok (.getfield 10, 3) := by decide +kernel
theorem dX6_countState_23 : decode cX6_countState 23 = .ok (.iload_n 1, 1) := by decide +kernel
theorem dX6_countState_24 : decode cX6_countState 24 = .ok (.invokevirtual 102, 3) := by decide +kernel
theorem dX6_countState_27 : decode cX6_countState 27 = .ok (.ireturn, 1) := by decide +kernel
theorem dX6_countOf_0 : decode cX6_countOf 0 = .ok (.aload_n 0, 1) := by decide +kernel
theorem dX6_countOf_1 : decode cX6_countOf 1 = .ok (.iload_n 1, 1) := by decide +kernel
theorem dX6_countOf_2 : decode cX6_countOf 2 = .ok (.iconst 0, 1) := by decide +kernel
theorem dX6_countOf_3 : decode cX6_countOf 3 = .ok (.bipush 49, 2) := by decide +kernel
theorem dX6_countOf_5 : decode cX6_countOf 5 = .ok (.invokevirtual 26, 3) := by decide +kernel
theorem dX6_countOf_8 : decode cX6_countOf 8 = .ok (.aload_n 0, 1) := by decide +kernel
theorem dX6_countOf_9 : decode cX6_countOf 9 = .ok (.getfield 10, 3) := by decide +kernel
theorem dX6_countOf_12 : decode cX6_countOf 12 = .ok (.iload_n 1, 1) := by decide +kernel
theorem dX6_countOf_13 : decode cX6_countOf 13 = .ok (.invokevirtual 106, 3) := by decide +kernel
theorem dX6_countOf_16 : decode cX6_countOf 16 = .ok (.ireturn, 1) := by decide +kernel
theorem dX6_ask_0 : decode cX6_ask 0 = .ok (.aload_n 0, 1) := by decide +kernel
theorem dX6_ask_1 : decode cX6_ask 1 = .ok (.aload_n 0, 1) := by decide +kernel
theorem dX6_ask_2 : decode cX6_ask 2 = .ok (.iload_n 1, 1) := by decide +kernel
theorem dX6_ask_3 : decode cX6_ask 3 = .ok (.invokevirtual 67, 3) := by decide +kernel
theorem dX6_ask_6 : decode cX6_ask 6 = .ok (.bipush 114, 2) := by decide +kernel
theorem dX6_ask_8 : decode cX6_ask 8 = .ok (.invokevirtual 109, 3) := by decide +kernel
theorem dX6_ask_11 : decode cX6_ask 11 = .ok (.aload_n 0, 1) := by decide +kernel
theorem dX6_ask_12 : decode cX6_ask 12 = .ok (.bipush 9, 2) := by decide +kernel
theorem dX6_ask_14 : decode cX6_ask 14 = .ok (.iload_n 1, 1) := by decide +kernel
theorem dX6_ask_15 : decode cX6_ask 15 = .ok (.iconst 0, 1) := by decide +kernel
theorem dX6_ask_16 : decode cX6_ask 16 = .ok (.invokevirtual 41, 3) := by decide +kernel
theorem dX6_ask_19 : decode cX6_ask 19 = .ok (.ireturn, 1) := by decide +kernel
theorem dX6_extend_0 : decode cX6_extend 0 = .ok (.aload_n 0, 1) := by decide +kernel
theorem dX6_extend_1 : decode cX6_extend 1 = .ok (.iload_n 1, 1) := by decide +kernel
theorem dX6_extend_2 : decode cX6_extend 2 = .ok (.invokevirtual 67, 3) := by decide +kernel
theorem dX6_extend_5 : decode cX6_extend 5 = .ok (.astore_n 3, 1) := by decide +kernel
theorem dX6_extend_6 : decode cX6_extend 6 = .ok (.aload_n 0, 1) := by decide +kernel
theorem dX6_extend_7 : decode cX6_extend 7 = .ok (.iload_n 2, 1) := by decide +kernel
theorem dX6_extend_8 : decode cX6_extend 8 = .ok (.iconst 1, 1) := by decide +kernel
theorem dX6_extend_9 : decode cX6_extend 9 = .ok (.bipush 30, 2) := by decide +kernel
theorem dX6_extend_11 : decode cX6_extend 11 = .ok (.invokevirtual 26, 3) := by decide +kernel
theorem dX6_extend_14 : decode cX6_extend 14 = .ok (.aload_n 0, 1) := by decide +kernel
theorem dX6_extend_15 : decode cX6_extend 15 = .ok (.aload_n 3, 1) := by decide +kernel
theorem dX6_extend_16 : decode cX6_extend 16 = .ok (.bipush 97, 2) := by decide +kernel
theorem dX6_extend_18 : decode cX6_extend 18 = .ok (.invokevirtual 109, 3) := by decide +kernel
theorem dX6_extend_21 : decode cX6_extend 21 = .ok (.aload_n 0, 1) := by decide +kernel
theorem dX6_extend_22 : decode cX6_extend 22 = .ok (.getfield 10, 3) := by decide +kernel
theorem dX6_extend_25 : decode cX6_extend 25 = .ok (.aload_n 3, 1) := by decide +kernel
theorem dX6_extend_26 : decode cX6_extend 26 = .ok (.invokevirtual 113, 3) := by decide +kernel
theorem dX6_extend_29 : decode cX6_extend 29 = .ok (.ifCond .ne 13, 3) := by decide +kernel
theorem dX6_extend_32 : decode cX6_extend 32 = .ok (.aload_n 3, 1) := by decide +kernel
theorem dX6_extend_33 : decode cX6_extend 33 = .ok (.getfield 117, 3) := by decide +kernel
theorem dX6_extend_36 : decode cX6_extend 36 = .ok (.getfield 121, 3) := by decide +kernel
theorem dX6_extend_39 : decode cX6_extend 39 = .ok (.ifCond .eq 13, 3) := by decide +kernel
theorem dX6_extend_42 : decode cX6_extend 42 = .ok (.new 80, 3) := by decide +kernel
theorem dX6_extend_45 : decode cX6_extend 45 = .ok (.dup, 1) := by decide +kernel
theorem dX6_extend_46 : decode cX6_extend 46 = .ok (.ldc 127, 2) := by decide +kernel
theorem dX6_extend_48 : decode cX6_extend 48 = .ok (.invokespecial 84, 3) := by decide +kernel
theorem dX6_extend_51 : decode cX6_extend 51 = .ok (.athrow, 1) := by decide +kernel
theorem dX6_extend_52 : decode cX6_extend 52 = .ok (.aload_n 0, 1) := by decide +kernel
theorem dX6_extend_53 : decode cX6_extend 53 = .ok (.bipush 10, 2) := by decide +kernel
theorem dX6_extend_55 : decode cX6_extend 55 = .ok (.iload_n 1, 1) := by decide +kernel
theorem dX6_extend_56 : decode cX6_extend 56 = .ok (.iload_n 2, 1) := by decide +kernel
theorem dX6_extend_57 : decode cX6_extend 57 = .ok (.invokevirtual 41, 3) := by decide +kernel
theorem dX6_extend_60 : decode cX6_extend 60 = .ok (.ireturn, 1) := by decide +kernel
theorem dX6_remind_0 : decode cX6_remind 0 = .ok (.aload_n 0, 1) := by decide +kernel
theorem dX6_remind_1 : decode cX6_remind 1 = .ok (.iload_n 1, 1) := by decide +kernel
theorem dX6_remind_2 : decode cX6_remind 2 = .ok (.invokevirtual 67, 3) := by decide +kernel
theorem dX6_remind_5 : decode cX6_remind 5 = .ok (.astore_n 2, 1) := by decide +kernel
theorem dX6_remind_6 : decode cX6_remind 6 = .ok (.aload_n 0, 1) := by decide +kernel
theorem dX6_remind_7 : decode cX6_remind 7 = .ok (.aload_n 2, 1) := by decide +kernel
theorem dX6_remind_8 : decode cX6_remind 8 = .ok (.bipush 97, 2) := by decide +kernel
theorem dX6_remind_10 : decode cX6_remind 10 = .ok (.invokevirtual 109, 3) := by decide +kernel
theorem dX6_remind_13 : decode cX6_remind 13 = .ok (.aload_n 0, 1) := by decide +kernel
theorem dX6_remind_14 : decode cX6_remind 14 = .ok (.getfield 10, 3) := by decide +kernel
theorem dX6_remind_17 : decode cX6_remind 17 = .ok (.aload_n 2, 1) := by decide +kernel
theorem dX6_remind_18 : decode cX6_remind 18 = .ok (.invokevirtual 113, 3) := by decide +kernel
theorem dX6_remind_21 : decode cX6_remind 21 = .ok (.ifCond .eq 14, 3) := by decide +kernel
theorem dX6_remind_24 : decode cX6_remind 24 = .ok (.aload_n 2, 1) := by decide +kernel
theorem dX6_remind_25 : decode cX6_remind 25 = .ok (.getfield 117, 3) := by decide +kernel
theorem dX6_remind_28 : decode cX6_remind 28 = .ok (.getfield 129, 3) := by decide +kernel
theorem dX6_remind_31 : decode cX6_remind 31 = .ok (.iconst 3, 1) := by decide +kernel
theorem dX6_remind_32 : decode cX6_remind 32 = .ok (.if_icmp .lt 13, 3) := by decide +kernel
theorem dX6_remind_35 : decode cX6_remind 35 = .ok (.new 80, 3) := by decide +kernel
theorem dX6_remind_38 : decode cX6_remind 38 = .ok (.dup, 1) := by decide +kernel
theorem dX6_remind_39 : decode cX6_remind 39 = .ok (.ldc 132, 2) := by decide +kernel
theorem dX6_remind_41 : decode cX6_remind 41 = .ok (.invokespecial 84, 3) := by decide +kernel
theorem dX6_remind_44 : decode cX6_remind 44 = .ok (.athrow, 1) := by decide +kernel
theorem dX6_remind_45 : decode cX6_remind 45 = .ok (.aload_n 0, 1) := by decide +kernel
theorem dX6_remind_46 : decode cX6_remind 46 = .ok (.bipush 11, 2) := by decide +kernel
theorem dX6_remind_48 : decode cX6_remind 48 = .ok (.iload_n 1, 1) := by decide +kernel
theorem dX6_remind_49 : decode cX6_remind 49 = .ok (.iconst 0, 1) := by decide +kernel
theorem dX6_remind_50 : decode cX6_remind 50 = .ok (.invokevirtual 41, 3) := by decide +kernel
theorem dX6_remind_53 : decode cX6_remind 53 = .ok (.ireturn, 1) := by decide +kernel
theorem dX6_answer_0 : decode cX6_answer 0 = .ok (.aload_n 0, 1) := by decide +kernel
theorem dX6_answer_1 : decode cX6_answer 1 = .ok (.aload_n 0, 1) := by decide +kernel
theorem dX6_answer_2 : decode cX6_answer 2 = .ok (.iload_n 1, 1) := by decide +kernel
theorem dX6_answer_3 : decode cX6_answer 3 = .ok (.invokevirtual 67, 3) := by decide +kernel
theorem dX6_answer_6 : decode cX6_answer 6 = .ok (.bipush 97, 2) := by decide +kernel
theorem dX6_answer_8 : decode cX6_answer 8 = .ok (.invokevirtual 109, 3) := by decide +kernel
theorem dX6_answer_11 : decode cX6_answer 11 = .ok (.aload_n 0, 1) := by decide +kernel
theorem dX6_answer_12 : decode cX6_answer 12 = .ok (.bipush 12, 2) := by decide +kernel
theorem dX6_answer_14 : decode cX6_answer 14 = .ok (.iload_n 1, 1) := by decide +kernel
theorem dX6_answer_15 : decode cX6_answer 15 = .ok (.iconst 0, 1) := by decide +kernel
theorem dX6_answer_16 : decode cX6_answer 16 = .ok (.invokevirtual 41, 3) := by decide +kernel
theorem dX6_answer_19 : decode cX6_answer 19 = .ok (.ireturn, 1) := by decide +kernel
theorem dX6_takeSilence_0 : decode cX6_takeSilence 0 = .ok (.aload_n 0, 1) := by decide +kernel
theorem dX6_takeSilence_1 : decode cX6_takeSilence 1 = .ok (.iload_n 1, 1) := by decide +kernel
theorem dX6_takeSilence_2 : decode cX6_takeSilence 2 = .ok (.invokevirtual 67, 3) := by decide +kernel
theorem dX6_takeSilence_5 : decode cX6_takeSilence 5 = .ok (.astore_n 2, 1) := by decide +kernel
theorem dX6_takeSilence_6 : decode cX6_takeSilence 6 = .ok (.aload_n 0, 1) := by decide +kernel
theorem dX6_takeSilence_7 : decode cX6_takeSilence 7 = .ok (.aload_n 2, 1) := by decide +kernel
theorem dX6_takeSilence_8 : decode cX6_takeSilence 8 = .ok (.bipush 97, 2) := by decide +kernel
theorem dX6_takeSilence_10 : decode cX6_takeSilence 10 = .ok (.invokevirtual 109, 3) := by decide +kernel
theorem dX6_takeSilence_13 : decode cX6_takeSilence 13 = .ok (.aload_n 0, 1) := by decide +kernel
theorem dX6_takeSilence_14 : decode cX6_takeSilence 14 = .ok (.getfield 10, 3) := by decide +kernel
theorem dX6_takeSilence_17 : decode cX6_takeSilence 17 = .ok (.aload_n 2, 1) := by decide +kernel
theorem dX6_takeSilence_18 : decode cX6_takeSilence 18 = .ok (.invokevirtual 113, 3) := by decide +kernel
theorem dX6_takeSilence_21 : decode cX6_takeSilence 21 = .ok (.ifCond .eq 14, 3) := by decide +kernel
theorem dX6_takeSilence_24 : decode cX6_takeSilence 24 = .ok (.aload_n 2, 1) := by decide +kernel
theorem dX6_takeSilence_25 : decode cX6_takeSilence 25 = .ok (.getfield 117, 3) := by decide +kernel
theorem dX6_takeSilence_28 : decode cX6_takeSilence 28 = .ok (.getfield 129, 3) := by decide +kernel
theorem dX6_takeSilence_31 : decode cX6_takeSilence 31 = .ok (.iconst 3, 1) := by decide +kernel
theorem dX6_takeSilence_32 : decode cX6_takeSilence 32 = .ok (.if_icmp .ge 13, 3) := by decide +kernel
theorem dX6_takeSilence_35 : decode cX6_takeSilence 35 = .ok (.new 80, 3) := by decide +kernel
theorem dX6_takeSilence_38 : decode cX6_takeSilence 38 = .ok (.dup, 1) := by decide +kernel
theorem dX6_takeSilence_39 : decode cX6_takeSilence 39 = .ok (.ldc 134, 2) := by decide +kernel
theorem dX6_takeSilence_41 : decode cX6_takeSilence 41 = .ok (.invokespecial 84, 3) := by decide +kernel
theorem dX6_takeSilence_44 : decode cX6_takeSilence 44 = .ok (.athrow, 1) := by decide +kernel
theorem dX6_takeSilence_45 : decode cX6_takeSilence 45 = .ok (.aload_n 0, 1) := by decide +kernel
theorem dX6_takeSilence_46 : decode cX6_takeSilence 46 = .ok (.bipush 13, 2) := by decide +kernel
theorem dX6_takeSilence_48 : decode cX6_takeSilence 48 = .ok (.iload_n 1, 1) := by decide +kernel
theorem dX6_takeSilence_49 : decode cX6_takeSilence 49 = .ok (.iconst 0, 1) := by decide +kernel
theorem dX6_takeSilence_50 : decode cX6_takeSilence 50 = .ok (.invokevirtual 41, 3) := by decide +kernel
theorem dX6_takeSilence_53 : decode cX6_takeSilence 53 = .ok (.ireturn, 1) := by decide +kernel
theorem dX6_isOverdue_0 : decode cX6_isOverdue 0 = .ok (.aload_n 0, 1) := by decide +kernel
theorem dX6_isOverdue_1 : decode cX6_isOverdue 1 = .ok (.getfield 10, 3) := by decide +kernel
theorem dX6_isOverdue_4 : decode cX6_isOverdue 4 = .ok (.aload_n 0, 1) := by decide +kernel
theorem dX6_isOverdue_5 : decode cX6_isOverdue 5 = .ok (.getfield 10, 3) := by decide +kernel
theorem dX6_isOverdue_8 : decode cX6_isOverdue 8 = .ok (.aload_n 0, 1) := by decide +kernel
theorem dX6_isOverdue_9 : decode cX6_isOverdue 9 = .ok (.iload_n 1, 1) := by decide +kernel
theorem dX6_isOverdue_10 : decode cX6_isOverdue 10 = .ok (.invokevirtual 67, 3) := by decide +kernel
theorem dX6_isOverdue_13 : decode cX6_isOverdue 13 = .ok (.invokevirtual 136, 3) := by decide +kernel
theorem dX6_isOverdue_16 : decode cX6_isOverdue 16 = .ok (.invokevirtual 113, 3) := by decide +kernel
theorem dX6_isOverdue_19 : decode cX6_isOverdue 19 = .ok (.ireturn, 1) := by decide +kernel
theorem dX6_nextDue_0 : decode cX6_nextDue 0 = .ok (.aload_n 0, 1) := by decide +kernel
theorem dX6_nextDue_1 : decode cX6_nextDue 1 = .ok (.getfield 10, 3) := by decide +kernel
theorem dX6_nextDue_4 : decode cX6_nextDue 4 = .ok (.invokevirtual 140, 3) := by decide +kernel
theorem dX6_nextDue_7 : decode cX6_nextDue 7 = .ok (.istore_n 1, 1) := by decide +kernel
theorem dX6_nextDue_8 : decode cX6_nextDue 8 = .ok (.iload_n 1, 1) := by decide +kernel
theorem dX6_nextDue_9 : decode cX6_nextDue 9 = .ok (.iconst (-1), 1) := by decide +kernel
theorem dX6_nextDue_10 : decode cX6_nextDue 10 = .ok (.if_icmp .ne 13, 3) := by decide +kernel
theorem dX6_nextDue_13 : decode cX6_nextDue 13 = .ok (.new 144, 3) := by decide +kernel
theorem dX6_nextDue_16 : decode cX6_nextDue 16 = .ok (.dup, 1) := by decide +kernel
theorem dX6_nextDue_17 : decode cX6_nextDue 17 = .ok (.ldc 146, 2) := by decide +kernel
theorem dX6_nextDue_19 : decode cX6_nextDue 19 = .ok (.invokespecial 148, 3) := by decide +kernel
theorem dX6_nextDue_22 : decode cX6_nextDue 22 = .ok (.athrow, 1) := by decide +kernel
theorem dX6_nextDue_23 : decode cX6_nextDue 23 = .ok (.iload_n 1, 1) := by decide +kernel
theorem dX6_nextDue_24 : decode cX6_nextDue 24 = .ok (.ireturn, 1) := by decide +kernel
theorem dX6_join_0 : decode cX6_join 0 = .ok (.aload_n 0, 1) := by decide +kernel
theorem dX6_join_1 : decode cX6_join 1 = .ok (.iload_n 1, 1) := by decide +kernel
theorem dX6_join_2 : decode cX6_join 2 = .ok (.invokevirtual 67, 3) := by decide +kernel
theorem dX6_join_5 : decode cX6_join 5 = .ok (.astore_n 3, 1) := by decide +kernel
theorem dX6_join_6 : decode cX6_join 6 = .ok (.aload_n 0, 1) := by decide +kernel
theorem dX6_join_7 : decode cX6_join 7 = .ok (.iload_n 2, 1) := by decide +kernel
theorem dX6_join_8 : decode cX6_join 8 = .ok (.invokevirtual 67, 3) := by decide +kernel
theorem dX6_join_11 : decode cX6_join 11 = .ok (.astore 4, 2) := by decide +kernel
theorem dX6_join_13 : decode cX6_join 13 = .ok (.iload_n 1, 1) := by decide +kernel
theorem dX6_join_14 : decode cX6_join 14 = .ok (.iload_n 2, 1) := by decide +kernel
theorem dX6_join_15 : decode cX6_join 15 = .ok (.if_icmp .ne 13, 3) := by decide +kernel
theorem dX6_join_18 : decode cX6_join 18 = .ok (.new 97, 3) := by decide +kernel
theorem dX6_join_21 : decode cX6_join 21 = .ok (.dup, 1) := by decide +kernel
theorem dX6_join_22 : decode cX6_join 22 = .ok (.ldc 149, 2) := by decide +kernel
theorem dX6_join_24 : decode cX6_join 24 = .ok (.invokespecial 101, 3) := by decide +kernel
theorem dX6_join_27 : decode cX6_join 27 = .ok (.athrow, 1) := by decide +kernel
theorem dX6_join_28 : decode cX6_join 28 = .ok (.aload_n 0, 1) := by decide +kernel
theorem dX6_join_29 : decode cX6_join 29 = .ok (.getfield 10, 3) := by decide +kernel
theorem dX6_join_32 : decode cX6_join 32 = .ok (.aload_n 3, 1) := by decide +kernel
theorem dX6_join_33 : decode cX6_join 33 = .ok (.aload 4, 2) := by decide +kernel
theorem dX6_join_35 : decode cX6_join 35 = .ok (.invokevirtual 151, 3) := by decide +kernel
theorem dX6_join_38 : decode cX6_join 38 = .ok (.ifCond .ne 13, 3) := by decide +kernel
theorem dX6_join_41 : decode cX6_join 41 = .ok (.new 80, 3) := by decide +kernel
theorem dX6_join_44 : decode cX6_join 44 = .ok (.dup, 1) := by decide +kernel
theorem dX6_join_45 : decode cX6_join 45 = .ok (.ldc 155, 2) := by decide +kernel
theorem dX6_join_47 : decode cX6_join 47 = .ok (.invokespecial 84, 3) := by decide +kernel
theorem dX6_join_50 : decode cX6_join 50 = .ok (.athrow, 1) := by decide +kernel
theorem dX6_join_51 : decode cX6_join 51 = .ok (.aload_n 0, 1) := by decide +kernel
theorem dX6_join_52 : decode cX6_join 52 = .ok (.bipush 14, 2) := by decide +kernel
theorem dX6_join_54 : decode cX6_join 54 = .ok (.iload_n 1, 1) := by decide +kernel
theorem dX6_join_55 : decode cX6_join 55 = .ok (.iload_n 2, 1) := by decide +kernel
theorem dX6_join_56 : decode cX6_join 56 = .ok (.invokevirtual 41, 3) := by decide +kernel
theorem dX6_join_59 : decode cX6_join 59 = .ok (.ireturn, 1) := by decide +kernel
theorem dX6_part_0 : decode cX6_part 0 = .ok (.aload_n 0, 1) := by decide +kernel
theorem dX6_part_1 : decode cX6_part 1 = .ok (.iload_n 1, 1) := by decide +kernel
theorem dX6_part_2 : decode cX6_part 2 = .ok (.invokevirtual 67, 3) := by decide +kernel
theorem dX6_part_5 : decode cX6_part 5 = .ok (.astore_n 2, 1) := by decide +kernel
theorem dX6_part_6 : decode cX6_part 6 = .ok (.aload_n 2, 1) := by decide +kernel
theorem dX6_part_7 : decode cX6_part 7 = .ok (.invokevirtual 157, 3) := by decide +kernel
theorem dX6_part_10 : decode cX6_part 10 = .ok (.ifCond .eq 20, 3) := by decide +kernel
theorem dX6_part_13 : decode cX6_part 13 = .ok (.aload_n 0, 1) := by decide +kernel
theorem dX6_part_14 : decode cX6_part 14 = .ok (.getfield 10, 3) := by decide +kernel
theorem dX6_part_17 : decode cX6_part 17 = .ok (.aload_n 2, 1) := by decide +kernel
theorem dX6_part_18 : decode cX6_part 18 = .ok (.invokevirtual 136, 3) := by decide +kernel
theorem dX6_part_21 : decode cX6_part 21 = .ok (.getfield 161, 3) := by decide +kernel
theorem dX6_part_24 : decode cX6_part 24 = .ok (.invokevirtual 165, 3) := by decide +kernel
theorem dX6_part_27 : decode cX6_part 27 = .ok (.ifCond .eq 13, 3) := by decide +kernel
theorem dX6_part_30 : decode cX6_part 30 = .ok (.new 80, 3) := by decide +kernel
theorem dX6_part_33 : decode cX6_part 33 = .ok (.dup, 1) := by decide +kernel
theorem dX6_part_34 : decode cX6_part 34 = .ok (.ldc 170, 2) := by decide +kernel
theorem dX6_part_36 : decode cX6_part 36 = .ok (.invokespecial 84, 3) := by decide +kernel
theorem dX6_part_39 : decode cX6_part 39 = .ok (.athrow, 1) := by decide +kernel
theorem dX6_part_40 : decode cX6_part 40 = .ok (.aload_n 0, 1) := by decide +kernel
theorem dX6_part_41 : decode cX6_part 41 = .ok (.bipush 15, 2) := by decide +kernel
theorem dX6_part_43 : decode cX6_part 43 = .ok (.iload_n 1, 1) := by decide +kernel
theorem dX6_part_44 : decode cX6_part 44 = .ok (.iconst 0, 1) := by decide +kernel
theorem dX6_part_45 : decode cX6_part 45 = .ok (.invokevirtual 41, 3) := by decide +kernel
theorem dX6_part_48 : decode cX6_part 48 = .ok (.ireturn, 1) := by decide +kernel
theorem dX6_lead_0 : decode cX6_lead 0 = .ok (.aload_n 0, 1) := by decide +kernel
theorem dX6_lead_1 : decode cX6_lead 1 = .ok (.iload_n 1, 1) := by decide +kernel
theorem dX6_lead_2 : decode cX6_lead 2 = .ok (.invokevirtual 67, 3) := by decide +kernel
theorem dX6_lead_5 : decode cX6_lead 5 = .ok (.getfield 172, 3) := by decide +kernel
theorem dX6_lead_8 : decode cX6_lead 8 = .ok (.ireturn, 1) := by decide +kernel
theorem dX6_countJoined_0 : decode cX6_countJoined 0 = .ok (.aload_n 0, 1) := by decide +kernel
theorem dX6_countJoined_1 : decode cX6_countJoined 1 = .ok (.getfield 10, 3) := by decide +kernel
theorem dX6_countJoined_4 : decode cX6_countJoined 4 = .ok (.aload_n 0, 1) := by decide +kernel
theorem dX6_countJoined_5 : decode cX6_countJoined 5 = .ok (.iload_n 1, 1) := by decide +kernel
theorem dX6_countJoined_6 : decode cX6_countJoined 6 = .ok (.invokevirtual 67, 3) := by decide +kernel
theorem dX6_countJoined_9 : decode cX6_countJoined 9 = .ok (.invokevirtual 175, 3) := by decide +kernel
theorem dX6_countJoined_12 : decode cX6_countJoined 12 = .ok (.ireturn, 1) := by decide +kernel
theorem dX6_setWeight_0 : decode cX6_setWeight 0 = .ok (.aload_n 0, 1) := by decide +kernel
theorem dX6_setWeight_1 : decode cX6_setWeight 1 = .ok (.iload_n 1, 1) := by decide +kernel
theorem dX6_setWeight_2 : decode cX6_setWeight 2 = .ok (.iconst 0, 1) := by decide +kernel
theorem dX6_setWeight_3 : decode cX6_setWeight 3 = .ok (.iconst 4, 1) := by decide +kernel
theorem dX6_setWeight_4 : decode cX6_setWeight 4 = .ok (.invokevirtual 26, 3) := by decide +kernel
theorem dX6_setWeight_7 : decode cX6_setWeight 7 = .ok (.aload_n 0, 1) := by decide +kernel
theorem dX6_setWeight_8 : decode cX6_setWeight 8 = .ok (.iload_n 2, 1) := by decide +kernel
theorem dX6_setWeight_9 : decode cX6_setWeight 9 = .ok (.iconst 1, 1) := by decide +kernel
theorem dX6_setWeight_10 : decode cX6_setWeight 10 = .ok (.bipush 9, 2) := by decide +kernel
theorem dX6_setWeight_12 : decode cX6_setWeight 12 = .ok (.invokevirtual 26, 3) := by decide +kernel
theorem dX6_setWeight_15 : decode cX6_setWeight 15 = .ok (.aload_n 0, 1) := by decide +kernel
theorem dX6_setWeight_16 : decode cX6_setWeight 16 = .ok (.iconst 3, 1) := by decide +kernel
theorem dX6_setWeight_17 : decode cX6_setWeight 17 = .ok (.iload_n 1, 1) := by decide +kernel
theorem dX6_setWeight_18 : decode cX6_setWeight 18 = .ok (.iload_n 2, 1) := by decide +kernel
theorem dX6_setWeight_19 : decode cX6_setWeight 19 = .ok (.invokevirtual 41, 3) := by decide +kernel
theorem dX6_setWeight_22 : decode cX6_setWeight 22 = .ok (.ireturn, 1) := by decide +kernel
theorem dX6_find_0 : decode cX6_find 0 = .ok (.aload_n 0, 1) := by decide +kernel
theorem dX6_find_1 : decode cX6_find 1 = .ok (.iload_n 1, 1) := by decide +kernel
theorem dX6_find_2 : decode cX6_find 2 = .ok (.invokevirtual 67, 3) := by decide +kernel
theorem dX6_find_5 : decode cX6_find 5 = .ok (.astore_n 3, 1) := by decide +kernel
theorem dX6_find_6 : decode cX6_find 6 = .ok (.aload_n 0, 1) := by decide +kernel
theorem dX6_find_7 : decode cX6_find 7 = .ok (.iload_n 2, 1) := by decide +kernel
theorem dX6_find_8 : decode cX6_find 8 = .ok (.iconst 0, 1) := by decide +kernel
theorem dX6_find_9 : decode cX6_find 9 = .ok (.bipush 31, 2) := by decide +kernel
theorem dX6_find_11 : decode cX6_find 11 = .ok (.invokevirtual 26, 3) := by decide +kernel
theorem dX6_find_14 : decode cX6_find 14 = .ok (.aload_n 0, 1) := by decide +kernel
theorem dX6_find_15 : decode cX6_find 15 = .ok (.aload_n 3, 1) := by decide +kernel
theorem dX6_find_16 : decode cX6_find 16 = .ok (.bipush 115, 2) := by decide +kernel
theorem dX6_find_18 : decode cX6_find 18 = .ok (.invokevirtual 109, 3) := by decide +kernel
theorem dX6_find_21 : decode cX6_find 21 = .ok (.aload_n 0, 1) := by decide +kernel
theorem dX6_find_22 : decode cX6_find 22 = .ok (.bipush 16, 2) := by decide +kernel
theorem dX6_find_24 : decode cX6_find 24 = .ok (.iload_n 1, 1) := by decide +kernel
theorem dX6_find_25 : decode cX6_find 25 = .ok (.iload_n 2, 1) := by decide +kernel
theorem dX6_find_26 : decode cX6_find 26 = .ok (.invokevirtual 41, 3) := by decide +kernel
theorem dX6_find_29 : decode cX6_find 29 = .ok (.ireturn, 1) := by decide +kernel
theorem dX6_heads_0 : decode cX6_heads 0 = .ok (.aload_n 0, 1) := by decide +kernel
theorem dX6_heads_1 : decode cX6_heads 1 = .ok (.getfield 10, 3) := by decide +kernel
theorem dX6_heads_4 : decode cX6_heads 4 = .ok (.aload_n 0, 1) := by decide +kernel
theorem dX6_heads_5 : decode cX6_heads 5 = .ok (.iload_n 1, 1) := by decide +kernel
theorem dX6_heads_6 : decode cX6_heads 6 = .ok (.invokevirtual 67, 3) := by decide +kernel
theorem dX6_heads_9 : decode cX6_heads 9 = .ok (.invokevirtual 136, 3) := by decide +kernel
theorem dX6_heads_12 : decode cX6_heads 12 = .ok (.getfield 161, 3) := by decide +kernel
theorem dX6_heads_15 : decode cX6_heads 15 = .ok (.astore_n 2, 1) := by decide +kernel
theorem dX6_heads_16 : decode cX6_heads 16 = .ok (.aload_n 2, 1) := by decide +kernel
theorem dX6_heads_17 : decode cX6_heads 17 = .ok (.invokevirtual 165, 3) := by decide +kernel
theorem dX6_heads_20 : decode cX6_heads 20 = .ok (.ifCond .ne 13, 3) := by decide +kernel
theorem dX6_heads_23 : decode cX6_heads 23 = .ok (.new 144, 3) := by decide +kernel
theorem dX6_heads_26 : decode cX6_heads 26 = .ok (.dup, 1) := by decide +kernel
theorem dX6_heads_27 : decode cX6_heads 27 = .ok (.ldc 179, 2) := by decide +kernel
theorem dX6_heads_29 : decode cX6_heads 29 = .ok (.invokespecial 148, 3) := by decide +kernel
theorem dX6_heads_32 : decode cX6_heads 32 = .ok (.athrow, 1) := by decide +kernel
theorem dX6_heads_33 : decode cX6_heads 33 = .ok (.aload_n 2, 1) := by decide +kernel
theorem dX6_heads_34 : decode cX6_heads 34 = .ok (.getfield 181, 3) := by decide +kernel
theorem dX6_heads_37 : decode cX6_heads 37 = .ok (.ireturn, 1) := by decide +kernel
theorem dX6_remedy_0 : decode cX6_remedy 0 = .ok (.aload_n 0, 1) := by decide +kernel
theorem dX6_remedy_1 : decode cX6_remedy 1 = .ok (.getfield 10, 3) := by decide +kernel
theorem dX6_remedy_4 : decode cX6_remedy 4 = .ok (.aload_n 0, 1) := by decide +kernel
theorem dX6_remedy_5 : decode cX6_remedy 5 = .ok (.iload_n 1, 1) := by decide +kernel
theorem dX6_remedy_6 : decode cX6_remedy 6 = .ok (.invokevirtual 67, 3) := by decide +kernel
theorem dX6_remedy_9 : decode cX6_remedy 9 = .ok (.invokevirtual 136, 3) := by decide +kernel
theorem dX6_remedy_12 : decode cX6_remedy 12 = .ok (.getfield 161, 3) := by decide +kernel
theorem dX6_remedy_15 : decode cX6_remedy 15 = .ok (.astore_n 2, 1) := by decide +kernel
theorem dX6_remedy_16 : decode cX6_remedy 16 = .ok (.aload_n 2, 1) := by decide +kernel
theorem dX6_remedy_17 : decode cX6_remedy 17 = .ok (.getfield 184, 3) := by decide +kernel
theorem dX6_remedy_20 : decode cX6_remedy 20 = .ok (.ifCond .ne 13, 3) := by decide +kernel
theorem dX6_remedy_23 : decode cX6_remedy 23 = .ok (.new 144, 3) := by decide +kernel
theorem dX6_remedy_26 : decode cX6_remedy 26 = .ok (.dup, 1) := by decide +kernel
theorem dX6_remedy_27 : decode cX6_remedy 27 = .ok (.ldc 187, 2) := by decide +kernel
theorem dX6_remedy_29 : decode cX6_remedy 29 = .ok (.invokespecial 148, 3) := by decide +kernel
theorem dX6_remedy_32 : decode cX6_remedy 32 = .ok (.athrow, 1) := by decide +kernel
theorem dX6_remedy_33 : decode cX6_remedy 33 = .ok (.aload_n 2, 1) := by decide +kernel
theorem dX6_remedy_34 : decode cX6_remedy 34 = .ok (.getfield 184, 3) := by decide +kernel
theorem dX6_remedy_37 : decode cX6_remedy 37 = .ok (.ireturn, 1) := by decide +kernel
theorem dX6_accept_0 : decode cX6_accept 0 = .ok (.aload_n 0, 1) := by decide +kernel
theorem dX6_accept_1 : decode cX6_accept 1 = .ok (.iload_n 1, 1) := by decide +kernel
theorem dX6_accept_2 : decode cX6_accept 2 = .ok (.invokevirtual 67, 3) := by decide +kernel
theorem dX6_accept_5 : decode cX6_accept 5 = .ok (.astore_n 3, 1) := by decide +kernel
theorem dX6_accept_6 : decode cX6_accept 6 = .ok (.aload_n 0, 1) := by decide +kernel
theorem dX6_accept_7 : decode cX6_accept 7 = .ok (.aload_n 3, 1) := by decide +kernel
theorem dX6_accept_8 : decode cX6_accept 8 = .ok (.bipush 100, 2) := by decide +kernel
theorem dX6_accept_10 : decode cX6_accept 10 = .ok (.invokevirtual 109, 3) := by decide +kernel
theorem dX6_accept_13 : decode cX6_accept 13 = .ok (.aload_n 3, 1) := by decide +kernel
theorem dX6_accept_14 : decode cX6_accept 14 = .ok (.getfield 161, 3) := by decide +kernel
theorem dX6_accept_17 : decode cX6_accept 17 = .ok (.getfield 189, 3) := by decide +kernel
theorem dX6_accept_20 : decode cX6_accept 20 = .ok (.ifCond .eq 13, 3) := by decide +kernel
theorem dX6_accept_23 : decode cX6_accept 23 = .ok (.new 80, 3) := by decide +kernel
theorem dX6_accept_26 : decode cX6_accept 26 = .ok (.dup, 1) := by decide +kernel
theorem dX6_accept_27 : decode cX6_accept 27 = .ok (.ldc 192, 2) := by decide +kernel
theorem dX6_accept_29 : decode cX6_accept 29 = .ok (.invokespecial 84, 3) := by decide +kernel
theorem dX6_accept_32 : decode cX6_accept 32 = .ok (.athrow, 1) := by decide +kernel
theorem dX6_accept_33 : decode cX6_accept 33 = .ok (.aload_n 0, 1) := by decide +kernel
theorem dX6_accept_34 : decode cX6_accept 34 = .ok (.bipush 17, 2) := by decide +kernel
theorem dX6_accept_36 : decode cX6_accept 36 = .ok (.iload_n 1, 1) := by decide +kernel
theorem dX6_accept_37 : decode cX6_accept 37 = .ok (.iload_n 2, 1) := by decide +kernel
theorem dX6_accept_38 : decode cX6_accept 38 = .ok (.ifCond .eq 7, 3) := by decide +kernel
theorem dX6_accept_41 : decode cX6_accept 41 = .ok (.iconst 1, 1) := by decide +kernel
theorem dX6_accept_42 : decode cX6_accept 42 = .ok (.goto 4, 3) := by decide +kernel
theorem dX6_accept_45 : decode cX6_accept 45 = .ok (.iconst 0, 1) := by decide +kernel
theorem dX6_accept_46 : decode cX6_accept 46 = .ok (.invokevirtual 41, 3) := by decide +kernel
theorem dX6_accept_49 : decode cX6_accept 49 = .ok (.ireturn, 1) := by decide +kernel
theorem dX6_isAccepted_0 : decode cX6_isAccepted 0 = .ok (.aload_n 0, 1) := by decide +kernel
theorem dX6_isAccepted_1 : decode cX6_isAccepted 1 = .ok (.getfield 10, 3) := by decide +kernel
theorem dX6_isAccepted_4 : decode cX6_isAccepted 4 = .ok (.aload_n 0, 1) := by decide +kernel
theorem dX6_isAccepted_5 : decode cX6_isAccepted 5 = .ok (.iload_n 1, 1) := by decide +kernel
theorem dX6_isAccepted_6 : decode cX6_isAccepted 6 = .ok (.invokevirtual 67, 3) := by decide +kernel
theorem dX6_isAccepted_9 : decode cX6_isAccepted 9 = .ok (.invokevirtual 136, 3) := by decide +kernel
theorem dX6_isAccepted_12 : decode cX6_isAccepted 12 = .ok (.getfield 161, 3) := by decide +kernel
theorem dX6_isAccepted_15 : decode cX6_isAccepted 15 = .ok (.astore_n 2, 1) := by decide +kernel
theorem dX6_isAccepted_16 : decode cX6_isAccepted 16 = .ok (.aload_n 2, 1) := by decide +kernel
theorem dX6_isAccepted_17 : decode cX6_isAccepted 17 = .ok (.getfield 189, 3) := by decide +kernel
theorem dX6_isAccepted_20 : decode cX6_isAccepted 20 = .ok (.ifCond .ne 13, 3) := by decide +kernel
theorem dX6_isAccepted_23 : decode cX6_isAccepted 23 = .ok (.new 144, 3) := by decide +kernel
theorem dX6_isAccepted_26 : decode cX6_isAccepted 26 = .ok (.dup, 1) := by decide +kernel
theorem dX6_isAccepted_27 : decode cX6_isAccepted 27 = .ok (.ldc 194, 2) := by decide +kernel
theorem dX6_isAccepted_29 : decode cX6_isAccepted 29 = .ok (.invokespecial 148, 3) := by decide +kernel
theorem dX6_isAccepted_32 : decode cX6_isAccepted 32 = .ok (.athrow, 1) := by decide +kernel
theorem dX6_isAccepted_33 : decode cX6_isAccepted 33 = .ok (.aload_n 2, 1) := by decide +kernel
theorem dX6_isAccepted_34 : decode cX6_isAccepted 34 = .ok (.getfield 196, 3) := by decide +kernel
theorem dX6_isAccepted_37 : decode cX6_isAccepted 37 = .ok (.ireturn, 1) := by decide +kernel
theorem dX6_heed_0 : decode cX6_heed 0 = .ok (.aload_n 0, 1) := by decide +kernel
theorem dX6_heed_1 : decode cX6_heed 1 = .ok (.iload_n 1, 1) := by decide +kernel
theorem dX6_heed_2 : decode cX6_heed 2 = .ok (.invokevirtual 67, 3) := by decide +kernel
theorem dX6_heed_5 : decode cX6_heed 5 = .ok (.astore_n 2, 1) := by decide +kernel
theorem dX6_heed_6 : decode cX6_heed 6 = .ok (.aload_n 0, 1) := by decide +kernel
theorem dX6_heed_7 : decode cX6_heed 7 = .ok (.aload_n 2, 1) := by decide +kernel
theorem dX6_heed_8 : decode cX6_heed 8 = .ok (.bipush 100, 2) := by decide +kernel
theorem dX6_heed_10 : decode cX6_heed 10 = .ok (.invokevirtual 109, 3) := by decide +kernel
theorem dX6_heed_13 : decode cX6_heed 13 = .ok (.aload_n 0, 1) := by decide +kernel
theorem dX6_heed_14 : decode cX6_heed 14 = .ok (.getfield 10, 3) := by decide +kernel
theorem dX6_heed_17 : decode cX6_heed 17 = .ok (.getfield 45, 3) := by decide +kernel
theorem dX6_heed_20 : decode cX6_heed 20 = .ok (.aload_n 2, 1) := by decide +kernel
theorem dX6_heed_21 : decode cX6_heed 21 = .ok (.getfield 161, 3) := by decide +kernel
theorem dX6_heed_24 : decode cX6_heed 24 = .ok (.getfield 199, 3) := by decide +kernel
theorem dX6_heed_27 : decode cX6_heed 27 = .ok (.if_icmp .le 13, 3) := by decide +kernel
theorem dX6_heed_30 : decode cX6_heed 30 = .ok (.new 80, 3) := by decide +kernel
theorem dX6_heed_33 : decode cX6_heed 33 = .ok (.dup, 1) := by decide +kernel
theorem dX6_heed_34 : decode cX6_heed 34 = .ok (.ldc 202, 2) := by decide +kernel
theorem dX6_heed_36 : decode cX6_heed 36 = .ok (.invokespecial 84, 3) := by decide +kernel
theorem dX6_heed_39 : decode cX6_heed 39 = .ok (.athrow, 1) := by decide +kernel
theorem dX6_heed_40 : decode cX6_heed 40 = .ok (.aload_n 0, 1) := by decide +kernel
theorem dX6_heed_41 : decode cX6_heed 41 = .ok (.bipush 18, 2) := by decide +kernel
theorem dX6_heed_43 : decode cX6_heed 43 = .ok (.iload_n 1, 1) := by decide +kernel
theorem dX6_heed_44 : decode cX6_heed 44 = .ok (.iconst 0, 1) := by decide +kernel
theorem dX6_heed_45 : decode cX6_heed 45 = .ok (.invokevirtual 41, 3) := by decide +kernel
theorem dX6_heed_48 : decode cX6_heed 48 = .ok (.ireturn, 1) := by decide +kernel
theorem dX6_followUp_0 : decode cX6_followUp 0 = .ok (.aload_n 0, 1) := by decide +kernel
theorem dX6_followUp_1 : decode cX6_followUp 1 = .ok (.iload_n 1, 1) := by decide +kernel
theorem dX6_followUp_2 : decode cX6_followUp 2 = .ok (.invokevirtual 67, 3) := by decide +kernel
theorem dX6_followUp_5 : decode cX6_followUp 5 = .ok (.astore_n 2, 1) := by decide +kernel
theorem dX6_followUp_6 : decode cX6_followUp 6 = .ok (.aload_n 0, 1) := by decide +kernel
theorem dX6_followUp_7 : decode cX6_followUp 7 = .ok (.aload_n 2, 1) := by decide +kernel
theorem dX6_followUp_8 : decode cX6_followUp 8 = .ok (.bipush 100, 2) := by decide +kernel
theorem dX6_followUp_10 : decode cX6_followUp 10 = .ok (.invokevirtual 109, 3) := by decide +kernel
theorem dX6_followUp_13 : decode cX6_followUp 13 = .ok (.aload_n 0, 1) := by decide +kernel
theorem dX6_followUp_14 : decode cX6_followUp 14 = .ok (.getfield 10, 3) := by decide +kernel
theorem dX6_followUp_17 : decode cX6_followUp 17 = .ok (.getfield 45, 3) := by decide +kernel
theorem dX6_followUp_20 : decode cX6_followUp 20 = .ok (.aload_n 2, 1) := by decide +kernel
theorem dX6_followUp_21 : decode cX6_followUp 21 = .ok (.getfield 161, 3) := by decide +kernel
theorem dX6_followUp_24 : decode cX6_followUp 24 = .ok (.getfield 199, 3) := by decide +kernel
theorem dX6_followUp_27 : decode cX6_followUp 27 = .ok (.if_icmp .gt 13, 3) := by decide +kernel
theorem dX6_followUp_30 : decode cX6_followUp 30 = .ok (.new 80, 3) := by decide +kernel
theorem dX6_followUp_33 : decode cX6_followUp 33 = .ok (.dup, 1) := by decide +kernel
theorem dX6_followUp_34 : decode cX6_followUp 34 = .ok (.ldc 204, 2) := by decide +kernel
theorem dX6_followUp_36 : decode cX6_followUp 36 = .ok (.invokespecial 84, 3) := by decide +kernel
theorem dX6_followUp_39 : decode cX6_followUp 39 = .ok (.athrow, 1) := by decide +kernel
theorem dX6_followUp_40 : decode cX6_followUp 40 = .ok (.aload_n 0, 1) := by decide +kernel
theorem dX6_followUp_41 : decode cX6_followUp 41 = .ok (.bipush 19, 2) := by decide +kernel
theorem dX6_followUp_43 : decode cX6_followUp 43 = .ok (.iload_n 1, 1) := by decide +kernel
theorem dX6_followUp_44 : decode cX6_followUp 44 = .ok (.iconst 0, 1) := by decide +kernel
theorem dX6_followUp_45 : decode cX6_followUp 45 = .ok (.invokevirtual 41, 3) := by decide +kernel
theorem dX6_followUp_48 : decode cX6_followUp 48 = .ok (.ireturn, 1) := by decide +kernel
theorem dX6_withdraw_0 : decode cX6_withdraw 0 = .ok (.aload_n 0, 1) := by decide +kernel
theorem dX6_withdraw_1 : decode cX6_withdraw 1 = .ok (.iload_n 1, 1) := by decide +kernel
theorem dX6_withdraw_2 : decode cX6_withdraw 2 = .ok (.invokevirtual 67, 3) := by decide +kernel
theorem dX6_withdraw_5 : decode cX6_withdraw 5 = .ok (.astore_n 2, 1) := by decide +kernel
theorem dX6_withdraw_6 : decode cX6_withdraw 6 = .ok (.aload_n 2, 1) := by decide +kernel
theorem dX6_withdraw_7 : decode cX6_withdraw 7 = .ok (.invokevirtual 157, 3) := by decide +kernel
theorem dX6_withdraw_10 : decode cX6_withdraw 10 = .ok (.ifCond .ne 13, 3) := by decide +kernel
theorem dX6_withdraw_13 : decode cX6_withdraw 13 = .ok (.aload_n 2, 1) := by decide +kernel
theorem dX6_withdraw_14 : decode cX6_withdraw 14 = .ok (.getfield 85, 3) := by decide +kernel
theorem dX6_withdraw_17 : decode cX6_withdraw 17 = .ok (.invokestatic 206, 3) := by decide +kernel
theorem dX6_withdraw_20 : decode cX6_withdraw 20 = .ok (.ifCond .eq 13, 3) := by decide +kernel
theorem dX6_withdraw_23 : decode cX6_withdraw 23 = .ok (.new 80, 3) := by decide +kernel
theorem dX6_withdraw_26 : decode cX6_withdraw 26 = .ok (.dup, 1) := by decide +kernel
theorem dX6_withdraw_27 : decode cX6_withdraw 27 = .ok (.ldc 210, 2) := by decide +kernel
theorem dX6_withdraw_29 : decode cX6_withdraw 29 = .ok (.invokespecial 84, 3) := by decide +kernel
theorem dX6_withdraw_32 : decode cX6_withdraw 32 = .ok (.athrow, 1) := by decide +kernel
theorem dX6_withdraw_33 : decode cX6_withdraw 33 = .ok (.aload_n 0, 1) := by decide +kernel
theorem dX6_withdraw_34 : decode cX6_withdraw 34 = .ok (.bipush 20, 2) := by decide +kernel
theorem dX6_withdraw_36 : decode cX6_withdraw 36 = .ok (.iload_n 1, 1) := by decide +kernel
theorem dX6_withdraw_37 : decode cX6_withdraw 37 = .ok (.iconst 0, 1) := by decide +kernel
theorem dX6_withdraw_38 : decode cX6_withdraw 38 = .ok (.invokevirtual 41, 3) := by decide +kernel
theorem dX6_withdraw_41 : decode cX6_withdraw 41 = .ok (.ireturn, 1) := by decide +kernel
theorem dX6_days_0 : decode cX6_days 0 = .ok (.aload_n 0, 1) := by decide +kernel
theorem dX6_days_1 : decode cX6_days 1 = .ok (.iload_n 1, 1) := by decide +kernel
theorem dX6_days_2 : decode cX6_days 2 = .ok (.invokevirtual 67, 3) := by decide +kernel
theorem dX6_days_5 : decode cX6_days 5 = .ok (.aload_n 0, 1) := by decide +kernel
theorem dX6_days_6 : decode cX6_days 6 = .ok (.getfield 10, 3) := by decide +kernel
theorem dX6_days_9 : decode cX6_days 9 = .ok (.getfield 45, 3) := by decide +kernel
theorem dX6_days_12 : decode cX6_days 12 = .ok (.invokevirtual 212, 3) := by decide +kernel
theorem dX6_days_15 : decode cX6_days 15 = .ok (.ireturn, 1) := by decide +kernel
theorem dX6_heededShare_0 : decode cX6_heededShare 0 = .ok (.aload_n 0, 1) := by decide +kernel
theorem dX6_heededShare_1 : decode cX6_heededShare 1 = .ok (.iload_n 1, 1) := by decide +kernel
theorem dX6_heededShare_2 : decode cX6_heededShare 2 = .ok (.invokevirtual 50, 3) := by decide +kernel
theorem dX6_heededShare_5 : decode cX6_heededShare 5 = .ok (.aload_n 0, 1) := by decide +kernel
theorem dX6_heededShare_6 : decode cX6_heededShare 6 = .ok (.getfield 10, 3) := by decide +kernel
theorem dX6_heededShare_9 : decode cX6_heededShare 9 = .ok (.getfield 215, 3) := by decide +kernel
theorem dX6_heededShare_12 : decode cX6_heededShare 12 = .ok (.iload_n 1, 1) := by decide +kernel
theorem dX6_heededShare_13 : decode cX6_heededShare 13 = .ok (.aaload, 1) := by decide +kernel
theorem dX6_heededShare_14 : decode cX6_heededShare 14 = .ok (.astore_n 2, 1) := by decide +kernel
theorem dX6_heededShare_15 : decode cX6_heededShare 15 = .ok (.aload_n 2, 1) := by decide +kernel
theorem dX6_heededShare_16 : decode cX6_heededShare 16 = .ok (.getfield 219, 3) := by decide +kernel
theorem dX6_heededShare_19 : decode cX6_heededShare 19 = .ok (.ifCond .ne 13, 3) := by decide +kernel
theorem dX6_heededShare_22 : decode cX6_heededShare 22 = .ok (.new 224, 3) := by decide +kernel
theorem dX6_heededShare_25 : decode cX6_heededShare 25 = .ok (.dup, 1) := by decide +kernel
theorem dX6_heededShare_26 : decode cX6_heededShare 26 = .ok (.ldc 226, 2) := by decide +kernel
theorem dX6_heededShare_28 : decode cX6_heededShare 28 = .ok (.invokespecial 228, 3) := by decide +kernel
theorem dX6_heededShare_31 : decode cX6_heededShare 31 = .ok (.athrow, 1) := by decide +kernel
theorem dX6_heededShare_32 : decode cX6_heededShare 32 = .ok (.aload_n 2, 1) := by decide +kernel
theorem dX6_heededShare_33 : decode cX6_heededShare 33 = .ok (.getfield 229, 3) := by decide +kernel
theorem dX6_heededShare_36 : decode cX6_heededShare 36 = .ok (.i2f, 1) := by decide +kernel
theorem dX6_heededShare_37 : decode cX6_heededShare 37 = .ok (.aload_n 2, 1) := by decide +kernel
theorem dX6_heededShare_38 : decode cX6_heededShare 38 = .ok (.getfield 219, 3) := by decide +kernel
theorem dX6_heededShare_41 : decode cX6_heededShare 41 = .ok (.i2f, 1) := by decide +kernel
theorem dX6_heededShare_42 : decode cX6_heededShare 42 = .ok (.fdiv, 1) := by decide +kernel
theorem dX6_heededShare_43 : decode cX6_heededShare 43 = .ok (.freturn, 1) := by decide +kernel
theorem dX6_meanDays_0 : decode cX6_meanDays 0 = .ok (.aload_n 0, 1) := by decide +kernel
theorem dX6_meanDays_1 : decode cX6_meanDays 1 = .ok (.getfield 10, 3) := by decide +kernel
theorem dX6_meanDays_4 : decode cX6_meanDays 4 = .ok (.invokevirtual 232, 3) := by decide +kernel
theorem dX6_meanDays_7 : decode cX6_meanDays 7 = .ok (.istore_n 1, 1) := by decide +kernel
theorem dX6_meanDays_8 : decode cX6_meanDays 8 = .ok (.iload_n 1, 1) := by decide +kernel
theorem dX6_meanDays_9 : decode cX6_meanDays 9 = .ok (.ifCond .ne 13, 3) := by decide +kernel
theorem dX6_meanDays_12 : decode cX6_meanDays 12 = .ok (.new 224, 3) := by decide +kernel
theorem dX6_meanDays_15 : decode cX6_meanDays 15 = .ok (.dup, 1) := by decide +kernel
theorem dX6_meanDays_16 : decode cX6_meanDays 16 = .ok (.ldc 235, 2) := by decide +kernel
theorem dX6_meanDays_18 : decode cX6_meanDays 18 = .ok (.invokespecial 228, 3) := by decide +kernel
theorem dX6_meanDays_21 : decode cX6_meanDays 21 = .ok (.athrow, 1) := by decide +kernel
theorem dX6_meanDays_22 : decode cX6_meanDays 22 = .ok (.aload_n 0, 1) := by decide +kernel
theorem dX6_meanDays_23 : decode cX6_meanDays 23 = .ok (.getfield 10, 3) := by decide +kernel
theorem dX6_meanDays_26 : decode cX6_meanDays 26 = .ok (.invokevirtual 237, 3) := by decide +kernel
theorem dX6_meanDays_29 : decode cX6_meanDays 29 = .ok (.i2d, 1) := by decide +kernel
theorem dX6_meanDays_30 : decode cX6_meanDays 30 = .ok (.iload_n 1, 1) := by decide +kernel
theorem dX6_meanDays_31 : decode cX6_meanDays 31 = .ok (.i2d, 1) := by decide +kernel
theorem dX6_meanDays_32 : decode cX6_meanDays 32 = .ok (.ddiv, 1) := by decide +kernel
theorem dX6_meanDays_33 : decode cX6_meanDays 33 = .ok (.dreturn, 1) := by decide +kernel
theorem dX6_checksum_0 : decode cX6_checksum 0 = .ok (.ldc2_w 240, 3) := by decide +kernel
theorem dX6_checksum_3 : decode cX6_checksum 3 = .ok (.lstore_n 1, 1) := by decide +kernel
theorem dX6_checksum_4 : decode cX6_checksum 4 = .ok (.iconst 0, 1) := by decide +kernel
theorem dX6_checksum_5 : decode cX6_checksum 5 = .ok (.istore_n 3, 1) := by decide +kernel
theorem dX6_checksum_6 : decode cX6_checksum 6 = .ok (.iload_n 3, 1) := by decide +kernel
theorem dX6_checksum_7 : decode cX6_checksum 7 = .ok (.aload_n 0, 1) := by decide +kernel
theorem dX6_checksum_8 : decode cX6_checksum 8 = .ok (.getfield 10, 3) := by decide +kernel
theorem dX6_checksum_11 : decode cX6_checksum 11 = .ok (.getfield 54, 3) := by decide +kernel
theorem dX6_checksum_14 : decode cX6_checksum 14 = .ok (.if_icmp .ge 53, 3) := by decide +kernel
theorem dX6_checksum_17 : decode cX6_checksum 17 = .ok (.aload_n 0, 1) := by decide +kernel
theorem dX6_checksum_18 : decode cX6_checksum 18 = .ok (.getfield 10, 3) := by decide +kernel
theorem dX6_checksum_21 : decode cX6_checksum 21 = .ok (.getfield 242, 3) := by decide +kernel
theorem dX6_checksum_24 : decode cX6_checksum 24 = .ok (.iload_n 3, 1) := by decide +kernel
theorem dX6_checksum_25 : decode cX6_checksum 25 = .ok (.aaload, 1) := by decide +kernel
theorem dX6_checksum_26 : decode cX6_checksum 26 = .ok (.astore 4, 2) := by decide +kernel
theorem dX6_checksum_28 : decode cX6_checksum 28 = .ok (.ldc2_w 246, 3) := by decide +kernel
theorem dX6_checksum_31 : decode cX6_checksum 31 = .ok (.lload_n 1, 1) := by decide +kernel
theorem dX6_checksum_32 : decode cX6_checksum 32 = .ok (.lmul, 1) := by decide +kernel
theorem dX6_checksum_33 : decode cX6_checksum 33 = .ok (.aload 4, 2) := by decide +kernel
theorem dX6_checksum_35 : decode cX6_checksum 35 = .ok (.getfield 85, 3) := by decide +kernel
theorem dX6_checksum_38 : decode cX6_checksum 38 = .ok (.i2l, 1) := by decide +kernel
theorem dX6_checksum_39 : decode cX6_checksum 39 = .ok (.ladd, 1) := by decide +kernel
theorem dX6_checksum_40 : decode cX6_checksum 40 = .ok (.lstore_n 1, 1) := by decide +kernel
theorem dX6_checksum_41 : decode cX6_checksum 41 = .ok (.ldc2_w 246, 3) := by decide +kernel
theorem dX6_checksum_44 : decode cX6_checksum 44 = .ok (.lload_n 1, 1) := by decide +kernel
theorem dX6_checksum_45 : decode cX6_checksum 45 = .ok (.lmul, 1) := by decide +kernel
theorem dX6_checksum_46 : decode cX6_checksum 46 = .ok (.aload 4, 2) := by decide +kernel
theorem dX6_checksum_48 : decode cX6_checksum 48 = .ok (.aload_n 0, 1) := by decide +kernel
theorem dX6_checksum_49 : decode cX6_checksum 49 = .ok (.getfield 10, 3) := by decide +kernel
theorem dX6_checksum_52 : decode cX6_checksum 52 = .ok (.getfield 45, 3) := by decide +kernel
theorem dX6_checksum_55 : decode cX6_checksum 55 = .ok (.invokevirtual 212, 3) := by decide +kernel
theorem dX6_checksum_58 : decode cX6_checksum 58 = .ok (.i2l, 1) := by decide +kernel
theorem dX6_checksum_59 : decode cX6_checksum 59 = .ok (.ladd, 1) := by decide +kernel
theorem dX6_checksum_60 : decode cX6_checksum 60 = .ok (.lstore_n 1, 1) := by decide +kernel
theorem dX6_checksum_61 : decode cX6_checksum 61 = .ok (.iinc 3 1, 3) := by decide +kernel
theorem dX6_checksum_64 : decode cX6_checksum 64 = .ok (.goto (-58), 3) := by decide +kernel
theorem dX6_checksum_67 : decode cX6_checksum 67 = .ok (.ldc2_w 246, 3) := by decide +kernel
theorem dX6_checksum_70 : decode cX6_checksum 70 = .ok (.lload_n 1, 1) := by decide +kernel
theorem dX6_checksum_71 : decode cX6_checksum 71 = .ok (.lmul, 1) := by decide +kernel
theorem dX6_checksum_72 : decode cX6_checksum 72 = .ok (.aload_n 0, 1) := by decide +kernel
theorem dX6_checksum_73 : decode cX6_checksum 73 = .ok (.getfield 10, 3) := by decide +kernel
theorem dX6_checksum_76 : decode cX6_checksum 76 = .ok (.getfield 45, 3) := by decide +kernel
theorem dX6_checksum_79 : decode cX6_checksum 79 = .ok (.i2l, 1) := by decide +kernel
theorem dX6_checksum_80 : decode cX6_checksum 80 = .ok (.ladd, 1) := by decide +kernel
theorem dX6_checksum_81 : decode cX6_checksum 81 = .ok (.lreturn, 1) := by decide +kernel
theorem dX6_isSound_0 : decode cX6_isSound 0 = .ok (.aload_n 0, 1) := by decide +kernel
theorem dX6_isSound_1 : decode cX6_isSound 1 = .ok (.getfield 22, 3) := by decide +kernel
theorem dX6_isSound_4 : decode cX6_isSound 4 = .ok (.aload_n 0, 1) := by decide +kernel
theorem dX6_isSound_5 : decode cX6_isSound 5 = .ok (.getfield 16, 3) := by decide +kernel
theorem dX6_isSound_8 : decode cX6_isSound 8 = .ok (.invokevirtual 248, 3) := by decide +kernel
theorem dX6_isSound_11 : decode cX6_isSound 11 = .ok (.aload_n 0, 1) := by decide +kernel
theorem dX6_isSound_12 : decode cX6_isSound 12 = .ok (.getfield 10, 3) := by decide +kernel
theorem dX6_isSound_15 : decode cX6_isSound 15 = .ok (.invokevirtual 252, 3) := by decide +kernel
theorem dX6_isSound_18 : decode cX6_isSound 18 = .ok (.ifCond .eq 21, 3) := by decide +kernel
theorem dX6_isSound_21 : decode cX6_isSound 21 = .ok (.aload_n 0, 1) := by decide +kernel
theorem dX6_isSound_22 : decode cX6_isSound 22 = .ok (.getfield 10, 3) := by decide +kernel
theorem dX6_isSound_25 : decode cX6_isSound 25 = .ok (.aload_n 0, 1) := by decide +kernel
theorem dX6_isSound_26 : decode cX6_isSound 26 = .ok (.getfield 16, 3) := by decide +kernel
theorem dX6_isSound_29 : decode cX6_isSound 29 = .ok (.invokevirtual 255, 3) := by decide +kernel
theorem dX6_isSound_32 : decode cX6_isSound 32 = .ok (.ifCond .eq 7, 3) := by decide +kernel
theorem dX6_isSound_35 : decode cX6_isSound 35 = .ok (.iconst 1, 1) := by decide +kernel
theorem dX6_isSound_36 : decode cX6_isSound 36 = .ok (.goto 4, 3) := by decide +kernel
theorem dX6_isSound_39 : decode cX6_isSound 39 = .ok (.iconst 0, 1) := by decide +kernel
theorem dX6_isSound_40 : decode cX6_isSound 40 = .ok (.ireturn, 1) := by decide +kernel
theorem dX6_happen_0 : decode cX6_happen 0 = .ok (.aload_n 0, 1) := by decide +kernel
theorem dX6_happen_1 : decode cX6_happen 1 = .ok (.getfield 22, 3) := by decide +kernel
theorem dX6_happen_4 : decode cX6_happen 4 = .ok (.iload_n 1, 1) := by decide +kernel
theorem dX6_happen_5 : decode cX6_happen 5 = .ok (.iload_n 2, 1) := by decide +kernel
theorem dX6_happen_6 : decode cX6_happen 6 = .ok (.iload_n 3, 1) := by decide +kernel
theorem dX6_happen_7 : decode cX6_happen 7 = .ok (.iconst 0, 1) := by decide +kernel
theorem dX6_happen_8 : decode cX6_happen 8 = .ok (.iconst 0, 1) := by decide +kernel
theorem dX6_happen_9 : decode cX6_happen 9 = .ok (.invokevirtual 59, 3) := by decide +kernel
theorem dX6_happen_12 : decode cX6_happen 12 = .ok (.aload_n 0, 1) := by decide +kernel
theorem dX6_happen_13 : decode cX6_happen 13 = .ok (.getfield 10, 3) := by decide +kernel
theorem dX6_happen_16 : decode cX6_happen 16 = .ok (.iload_n 1, 1) := by decide +kernel
theorem dX6_happen_17 : decode cX6_happen 17 = .ok (.iload_n 2, 1) := by decide +kernel
theorem dX6_happen_18 : decode cX6_happen 18 = .ok (.iload_n 3, 1) := by decide +kernel
theorem dX6_happen_19 : decode cX6_happen 19 = .ok (.iconst 0, 1) := by decide +kernel
theorem dX6_happen_20 : decode cX6_happen 20 = .ok (.iconst 0, 1) := by decide +kernel
theorem dX6_happen_21 : decode cX6_happen 21 = .ok (.invokevirtual 63, 3) := by decide +kernel
theorem dX6_happen_24 : decode cX6_happen 24 = .ok (.ireturn, 1) := by decide +kernel
theorem dX6_requireRange_0 : decode cX6_requireRange 0 = .ok (.iload_n 1, 1) := by decide +kernel
theorem dX6_requireRange_1 : decode cX6_requireRange 1 = .ok (.iload_n 2, 1) := by decide +kernel
theorem dX6_requireRange_2 : decode cX6_requireRange 2 = .ok (.if_icmp .lt 8, 3) := by decide +kernel
theorem dX6_requireRange_5 : decode cX6_requireRange 5 = .ok (.iload_n 1, 1) := by decide +kernel
theorem dX6_requireRange_6 : decode cX6_requireRange 6 = .ok (.iload_n 3, 1) := by decide +kernel
theorem dX6_requireRange_7 : decode cX6_requireRange 7 = .ok (.if_icmp .le 14, 3) := by decide +kernel
theorem dX6_requireRange_10 : decode cX6_requireRange 10 = .ok (.new 97, 3) := by decide +kernel
theorem dX6_requireRange_13 : decode cX6_requireRange 13 = .ok (.dup, 1) := by decide +kernel
theorem dX6_requireRange_14 : decode cX6_requireRange 14 = .ok (.ldc_w 259, 3) := by decide +kernel
theorem dX6_requireRange_17 : decode cX6_requireRange 17 = .ok (.invokespecial 101, 3) := by decide +kernel
theorem dX6_requireRange_20 : decode cX6_requireRange 20 = .ok (.athrow, 1) := by decide +kernel
theorem dX6_requireRange_21 : decode cX6_requireRange 21 = .ok (.return_, 1) := by decide +kernel
theorem dX6_requireOffice_0 : decode cX6_requireOffice 0 = .ok (.iload_n 1, 1) := by decide +kernel
theorem dX6_requireOffice_1 : decode cX6_requireOffice 1 = .ok (.ifCond .lt 14, 3) := by decide +kernel
theorem dX6_requireOffice_4 : decode cX6_requireOffice 4 = .ok (.iload_n 1, 1) := by decide +kernel
theorem dX6_requireOffice_5 : decode cX6_requireOffice 5 = .ok (.aload_n 0, 1) := by decide +kernel
theorem dX6_requireOffice_6 : decode cX6_requireOffice 6 = .ok (.getfield 10, 3) := by decide +kernel
theorem dX6_requireOffice_9 : decode cX6_requireOffice 9 = .ok (.getfield 30, 3) := by decide +kernel
theorem dX6_requireOffice_12 : decode cX6_requireOffice 12 = .ok (.if_icmp .lt 14, 3) := by decide +kernel
theorem dX6_requireOffice_15 : decode cX6_requireOffice 15 = .ok (.new 261, 3) := by decide +kernel
theorem dX6_requireOffice_18 : decode cX6_requireOffice 18 = .ok (.dup, 1) := by decide +kernel
theorem dX6_requireOffice_19 : decode cX6_requireOffice 19 = .ok (.ldc_w 263, 3) := by decide +kernel
theorem dX6_requireOffice_22 : decode cX6_requireOffice 22 = .ok (.invokespecial 265, 3) := by decide +kernel
theorem dX6_requireOffice_25 : decode cX6_requireOffice 25 = .ok (.athrow, 1) := by decide +kernel
theorem dX6_requireOffice_26 : decode cX6_requireOffice 26 = .ok (.return_, 1) := by decide +kernel
theorem dX6_known_0 : decode cX6_known 0 = .ok (.iload_n 1, 1) := by decide +kernel
theorem dX6_known_1 : decode cX6_known 1 = .ok (.ifCond .lt 14, 3) := by decide +kernel
theorem dX6_known_4 : decode cX6_known 4 = .ok (.iload_n 1, 1) := by decide +kernel
theorem dX6_known_5 : decode cX6_known 5 = .ok (.aload_n 0, 1) := by decide +kernel
theorem dX6_known_6 : decode cX6_known 6 = .ok (.getfield 10, 3) := by decide +kernel
theorem dX6_known_9 : decode cX6_known 9 = .ok (.getfield 54, 3) := by decide +kernel
theorem dX6_known_12 : decode cX6_known 12 = .ok (.if_icmp .lt 14, 3) := by decide +kernel
theorem dX6_known_15 : decode cX6_known 15 = .ok (.new 261, 3) := by decide +kernel
theorem dX6_known_18 : decode cX6_known 18 = .ok (.dup, 1) := by decide +kernel
theorem dX6_known_19 : decode cX6_known 19 = .ok (.ldc_w 266, 3) := by decide +kernel
theorem dX6_known_22 : decode cX6_known 22 = .ok (.invokespecial 265, 3) := by decide +kernel
theorem dX6_known_25 : decode cX6_known 25 = .ok (.athrow, 1) := by decide +kernel
theorem dX6_known_26 : decode cX6_known 26 = .ok (.aload_n 0, 1) := by decide +kernel
theorem dX6_known_27 : decode cX6_known 27 = .ok (.getfield 10, 3) := by decide +kernel
theorem dX6_known_30 : decode cX6_known 30 = .ok (.getfield 242, 3) := by decide +kernel
theorem dX6_known_33 : decode cX6_known 33 = .ok (.iload_n 1, 1) := by decide +kernel
theorem dX6_known_34 : decode cX6_known 34 = .ok (.aaload, 1) := by decide +kernel
theorem dX6_known_35 : decode cX6_known 35 = .ok (.areturn, 1) := by decide +kernel
theorem dX6_requireAtIntake_0 : decode cX6_requireAtIntake 0 = .ok (.aload_n 1, 1) := by decide +kernel
theorem dX6_requireAtIntake_1 : decode cX6_requireAtIntake 1 = .ok (.getfield 85, 3) := by decide +kernel
theorem dX6_requireAtIntake_4 : decode cX6_requireAtIntake 4 = .ok (.bipush 110, 2) := by decide +kernel
theorem dX6_requireAtIntake_6 : decode cX6_requireAtIntake 6 = .ok (.if_icmp .eq 23, 3) := by decide +kernel
theorem dX6_requireAtIntake_9 : decode cX6_requireAtIntake 9 = .ok (.aload_n 1, 1) := by decide +kernel
theorem dX6_requireAtIntake_10 : decode cX6_requireAtIntake 10 = .ok (.getfield 85, 3) := by decide +kernel
theorem dX6_requireAtIntake_13 : decode cX6_requireAtIntake 13 = .ok (.bipush 102, 2) := by decide +kernel
theorem dX6_requireAtIntake_15 : decode cX6_requireAtIntake 15 = .ok (.if_icmp .eq 14, 3) := by decide +kernel
theorem dX6_requireAtIntake_18 : decode cX6_requireAtIntake 18 = .ok (.new 80, 3) := by decide +kernel
theorem dX6_requireAtIntake_21 : decode cX6_requireAtIntake 21 = .ok (.dup, 1) := by decide +kernel
theorem dX6_requireAtIntake_22 : decode cX6_requireAtIntake 22 = .ok (.ldc_w 268, 3) := by decide +kernel
theorem dX6_requireAtIntake_25 : decode cX6_requireAtIntake 25 = .ok (.invokespecial 84, 3) := by decide +kernel
theorem dX6_requireAtIntake_28 : decode cX6_requireAtIntake 28 = .ok (.athrow, 1) := by decide +kernel
theorem dX6_requireAtIntake_29 : decode cX6_requireAtIntake 29 = .ok (.return_, 1) := by decide +kernel
theorem dX6_requireOwn_0 : decode cX6_requireOwn 0 = .ok (.aload_n 1, 1) := by decide +kernel
theorem dX6_requireOwn_1 : decode cX6_requireOwn 1 = .ok (.invokevirtual 157, 3) := by decide +kernel
theorem dX6_requireOwn_4 : decode cX6_requireOwn 4 = .ok (.ifCond .ne 11, 3) := by decide +kernel
theorem dX6_requireOwn_7 : decode cX6_requireOwn 7 = .ok (.aload_n 1, 1) := by decide +kernel
theorem dX6_requireOwn_8 : decode cX6_requireOwn 8 = .ok (.getfield 85, 3) := by decide +kernel
theorem dX6_requireOwn_11 : decode cX6_requireOwn 11 = .ok (.iload_n 2, 1) := by decide +kernel
theorem dX6_requireOwn_12 : decode cX6_requireOwn 12 = .ok (.if_icmp .eq 14, 3) := by decide +kernel
theorem dX6_requireOwn_15 : decode cX6_requireOwn 15 = .ok (.new 80, 3) := by decide +kernel
theorem dX6_requireOwn_18 : decode cX6_requireOwn 18 = .ok (.dup, 1) := by decide +kernel
theorem dX6_requireOwn_19 : decode cX6_requireOwn 19 = .ok (.ldc_w 270, 3) := by decide +kernel
theorem dX6_requireOwn_22 : decode cX6_requireOwn 22 = .ok (.invokespecial 84, 3) := by decide +kernel
theorem dX6_requireOwn_25 : decode cX6_requireOwn 25 = .ok (.athrow, 1) := by decide +kernel
theorem dX6_requireOwn_26 : decode cX6_requireOwn 26 = .ok (.return_, 1) := by decide +kernel
theorem dX6_isClosing_0 : decode cX6_isClosing 0 = .ok (.ldc_w 272, 3) := by decide +kernel
theorem dX6_isClosing_3 : decode cX6_isClosing 3 = .ok (.iload_n 0, 1) := by decide +kernel
theorem dX6_isClosing_4 : decode cX6_isClosing 4 = .ok (.invokevirtual 91, 3) := by decide +kernel
theorem dX6_isClosing_7 : decode cX6_isClosing 7 = .ok (.ifCond .lt 7, 3) := by decide +kernel
theorem dX6_isClosing_10 : decode cX6_isClosing 10 = .ok (.iconst 1, 1) := by decide +kernel
theorem dX6_isClosing_11 : decode cX6_isClosing 11 = .ok (.goto 4, 3) := by decide +kernel
theorem dX6_isClosing_14 : decode cX6_isClosing 14 = .ok (.iconst 0, 1) := by decide +kernel
theorem dX6_isClosing_15 : decode cX6_isClosing 15 = .ok (.ireturn, 1) := by decide +kernel
theorem dX6_remedyFor_0 : decode cX6_remedyFor 0 = .ok (.iload_n 0, 1) := by decide +kernel
theorem dX6_remedyFor_1 : decode cX6_remedyFor 1 = .ok (.iconst 3, 1) := by decide +kernel
theorem dX6_remedyFor_2 : decode cX6_remedyFor 2 = .ok (.if_icmp .gt 5, 3) := by decide +kernel
theorem dX6_remedyFor_5 : decode cX6_remedyFor 5 = .ok (.iconst 1, 1) := by decide +kernel
theorem dX6_remedyFor_6 : decode cX6_remedyFor 6 = .ok (.ireturn, 1) := by decide +kernel
theorem dX6_remedyFor_7 : decode cX6_remedyFor 7 = .ok (.iload_n 0, 1) := by decide +kernel
theorem dX6_remedyFor_8 : decode cX6_remedyFor 8 = .ok (.bipush 9, 2) := by decide +kernel
theorem dX6_remedyFor_10 : decode cX6_remedyFor 10 = .ok (.if_icmp .gt 5, 3) := by decide +kernel
theorem dX6_remedyFor_13 : decode cX6_remedyFor 13 = .ok (.iconst 2, 1) := by decide +kernel
theorem dX6_remedyFor_14 : decode cX6_remedyFor 14 = .ok (.ireturn, 1) := by decide +kernel
theorem dX6_remedyFor_15 : decode cX6_remedyFor 15 = .ok (.iload_n 0, 1) := by decide +kernel
theorem dX6_remedyFor_16 : decode cX6_remedyFor 16 = .ok (.bipush 15, 2) := by decide +kernel
theorem dX6_remedyFor_18 : decode cX6_remedyFor 18 = .ok (.if_icmp .gt 7, 3) := by decide +kernel
theorem dX6_remedyFor_21 : decode cX6_remedyFor 21 = .ok (.iconst 3, 1) := by decide +kernel
theorem dX6_remedyFor_22 : decode cX6_remedyFor 22 = .ok (.goto 4, 3) := by decide +kernel
theorem dX6_remedyFor_25 : decode cX6_remedyFor 25 = .ok (.iconst 4, 1) := by decide +kernel
theorem dX6_remedyFor_26 : decode cX6_remedyFor 26 = .ok (.ireturn, 1) := by decide +kernel
theorem dJx00060_init_a7421_0 : decode cJx00060_init_a7421 0 = .ok (.aload_n 0, 1) := by decide +kernel
theorem dJx00060_init_a7421_1 : decode cJx00060_init_a7421 1 = .ok (.aload_n 1, 1) := by decide +kernel
theorem dJx00060_init_a7421_2 : decode cJx00060_init_a7421 2 = .ok (.invokespecial 7, 3) := by decide +kernel
theorem dJx00060_init_a7421_5 : decode cJx00060_init_a7421 5 = .ok (.return_, 1) := by decide +kernel
theorem dJ11_isValidCodePoint_9a6ad_0 : decode cJ11_isValidCodePoint_9a6ad 0 = .ok (.iload_n 0, 1) := by decide +kernel
theorem dJ11_isValidCodePoint_9a6ad_1 : decode cJ11_isValidCodePoint_9a6ad 1 = .ok (.bipush 16, 2) := by decide +kernel
theorem dJ11_isValidCodePoint_9a6ad_3 : decode cJ11_isValidCodePoint_9a6ad 3 = .ok (.iushr, 1) := by decide +kernel
theorem dJ11_isValidCodePoint_9a6ad_4 : decode cJ11_isValidCodePoint_9a6ad 4 = .ok (.istore_n 1, 1) := by decide +kernel
theorem dJ11_isValidCodePoint_9a6ad_5 : decode cJ11_isValidCodePoint_9a6ad 5 = .ok (.iload_n 1, 1) := by decide +kernel
theorem dJ11_isValidCodePoint_9a6ad_6 : decode cJ11_isValidCodePoint_9a6ad 6 = .ok (.bipush 17, 2) := by decide +kernel
theorem dJ11_isValidCodePoint_9a6ad_8 : decode cJ11_isValidCodePoint_9a6ad 8 = .ok (.if_icmp .ge 7, 3) := by decide +kernel
theorem dJ11_isValidCodePoint_9a6ad_11 : decode cJ11_isValidCodePoint_9a6ad 11 = .ok (.iconst 1, 1) := by decide +kernel
theorem dJ11_isValidCodePoint_9a6ad_12 : decode cJ11_isValidCodePoint_9a6ad 12 = .ok (.goto 4, 3) := by decide +kernel
theorem dJ11_isValidCodePoint_9a6ad_15 : decode cJ11_isValidCodePoint_9a6ad 15 = .ok (.iconst 0, 1) := by decide +kernel
theorem dJ11_isValidCodePoint_9a6ad_16 : decode cJ11_isValidCodePoint_9a6ad 16 = .ok (.ireturn, 1) := by decide +kernel
theorem dJ11_highSurrogate_5068e_0 : decode cJ11_highSurrogate_5068e 0 = .ok (.iload_n 0, 1) := by decide +kernel
theorem dJ11_highSurrogate_5068e_1 : decode cJ11_highSurrogate_5068e 1 = .ok (.bipush 10, 2) := by decide +kernel
theorem dJ11_highSurrogate_5068e_3 : decode cJ11_highSurrogate_5068e 3 = .ok (.iushr, 1) := by decide +kernel
theorem dJ11_highSurrogate_5068e_4 : decode cJ11_highSurrogate_5068e 4 = .ok (.ldc 110, 2) := by decide +kernel
theorem dJ11_highSurrogate_5068e_6 : decode cJ11_highSurrogate_5068e 6 = .ok (.iadd, 1) := by decide +kernel
theorem dJ11_highSurrogate_5068e_7 : decode cJ11_highSurrogate_5068e 7 = .ok (.i2c, 1) := by decide +kernel
theorem dJ11_highSurrogate_5068e_8 : decode cJ11_highSurrogate_5068e 8 = .ok (.ireturn, 1) := by decide +kernel
theorem dJ11_lowSurrogate_5068e_0 : decode cJ11_lowSurrogate_5068e 0 = .ok (.iload_n 0, 1) := by decide +kernel
theorem dJ11_lowSurrogate_5068e_1 : decode cJ11_lowSurrogate_5068e 1 = .ok (.sipush 1023, 3) := by decide +kernel
theorem dJ11_lowSurrogate_5068e_4 : decode cJ11_lowSurrogate_5068e 4 = .ok (.iand, 1) := by decide +kernel
theorem dJ11_lowSurrogate_5068e_5 : decode cJ11_lowSurrogate_5068e 5 = .ok (.ldc 76, 2) := by decide +kernel
theorem dJ11_lowSurrogate_5068e_7 : decode cJ11_lowSurrogate_5068e 7 = .ok (.iadd, 1) := by decide +kernel
theorem dJ11_lowSurrogate_5068e_8 : decode cJ11_lowSurrogate_5068e 8 = .ok (.i2c, 1) := by decide +kernel
theorem dJ11_lowSurrogate_5068e_9 : decode cJ11_lowSurrogate_5068e 9 = .ok (.ireturn, 1) := by decide +kernel
theorem dJ6_bitCount_0f7a4_0 : decode cJ6_bitCount_0f7a4 0 = .ok (.iload_n 0, 1) := by decide +kernel
theorem dJ6_bitCount_0f7a4_1 : decode cJ6_bitCount_0f7a4 1 = .ok (.iload_n 0, 1) := by decide +kernel
theorem dJ6_bitCount_0f7a4_2 : decode cJ6_bitCount_0f7a4 2 = .ok (.iconst 1, 1) := by decide +kernel
theorem dJ6_bitCount_0f7a4_3 : decode cJ6_bitCount_0f7a4 3 = .ok (.iushr, 1) := by decide +kernel
theorem dJ6_bitCount_0f7a4_4 : decode cJ6_bitCount_0f7a4 4 = .ok (.ldc_w 265, 3) := by decide +kernel
theorem dJ6_bitCount_0f7a4_7 : decode cJ6_bitCount_0f7a4 7 = .ok (.iand, 1) := by decide +kernel
theorem dJ6_bitCount_0f7a4_8 : decode cJ6_bitCount_0f7a4 8 = .ok (.isub, 1) := by decide +kernel
theorem dJ6_bitCount_0f7a4_9 : decode cJ6_bitCount_0f7a4 9 = .ok (.istore_n 0, 1) := by decide +kernel
theorem dJ6_bitCount_0f7a4_10 : decode cJ6_bitCount_0f7a4 10 = .ok (.iload_n 0, 1) := by decide +kernel
theorem dJ6_bitCount_0f7a4_11 : decode cJ6_bitCount_0f7a4 11 = .ok (.ldc_w 266, 3) := by decide +kernel
theorem dJ6_bitCount_0f7a4_14 : decode cJ6_bitCount_0f7a4 14 = .ok (.iand, 1) := by decide +kernel
theorem dJ6_bitCount_0f7a4_15 : decode cJ6_bitCount_0f7a4 15 = .ok (.iload_n 0, 1) := by decide +kernel
theorem dJ6_bitCount_0f7a4_16 : decode cJ6_bitCount_0f7a4 16 = .ok (.iconst 2, 1) := by decide +kernel
theorem dJ6_bitCount_0f7a4_17 : decode cJ6_bitCount_0f7a4 17 = .ok (.iushr, 1) := by decide +kernel
theorem dJ6_bitCount_0f7a4_18 : decode cJ6_bitCount_0f7a4 18 = .ok (.ldc_w 266, 3) := by decide +kernel
theorem dJ6_bitCount_0f7a4_21 : decode cJ6_bitCount_0f7a4 21 = .ok (.iand, 1) := by decide +kernel
theorem dJ6_bitCount_0f7a4_22 : decode cJ6_bitCount_0f7a4 22 = .ok (.iadd, 1) := by decide +kernel
theorem dJ6_bitCount_0f7a4_23 : decode cJ6_bitCount_0f7a4 23 = .ok (.istore_n 0, 1) := by decide +kernel
theorem dJ6_bitCount_0f7a4_24 : decode cJ6_bitCount_0f7a4 24 = .ok (.iload_n 0, 1) := by decide +kernel
theorem dJ6_bitCount_0f7a4_25 : decode cJ6_bitCount_0f7a4 25 = .ok (.iload_n 0, 1) := by decide +kernel
theorem dJ6_bitCount_0f7a4_26 : decode cJ6_bitCount_0f7a4 26 = .ok (.iconst 4, 1) := by decide +kernel
theorem dJ6_bitCount_0f7a4_27 : decode cJ6_bitCount_0f7a4 27 = .ok (.iushr, 1) := by decide +kernel
theorem dJ6_bitCount_0f7a4_28 : decode cJ6_bitCount_0f7a4 28 = .ok (.iadd, 1) := by decide +kernel
theorem dJ6_bitCount_0f7a4_29 : decode cJ6_bitCount_0f7a4 29 = .ok (.ldc_w 267, 3) := by decide +kernel
theorem dJ6_bitCount_0f7a4_32 : decode cJ6_bitCount_0f7a4 32 = .ok (.iand, 1) := by decide +kernel
theorem dJ6_bitCount_0f7a4_33 : decode cJ6_bitCount_0f7a4 33 = .ok (.istore_n 0, 1) := by decide +kernel
theorem dJ6_bitCount_0f7a4_34 : decode cJ6_bitCount_0f7a4 34 = .ok (.iload_n 0, 1) := by decide +kernel
theorem dJ6_bitCount_0f7a4_35 : decode cJ6_bitCount_0f7a4 35 = .ok (.iload_n 0, 1) := by decide +kernel
theorem dJ6_bitCount_0f7a4_36 : decode cJ6_bitCount_0f7a4 36 = .ok (.bipush 8, 2) := by decide +kernel
theorem dJ6_bitCount_0f7a4_38 : decode cJ6_bitCount_0f7a4 38 = .ok (.iushr, 1) := by decide +kernel
theorem dJ6_bitCount_0f7a4_39 : decode cJ6_bitCount_0f7a4 39 = .ok (.iadd, 1) := by decide +kernel
theorem dJ6_bitCount_0f7a4_40 : decode cJ6_bitCount_0f7a4 40 = .ok (.istore_n 0, 1) := by decide +kernel
theorem dJ6_bitCount_0f7a4_41 : decode cJ6_bitCount_0f7a4 41 = .ok (.iload_n 0, 1) := by decide +kernel
theorem dJ6_bitCount_0f7a4_42 : decode cJ6_bitCount_0f7a4 42 = .ok (.iload_n 0, 1) := by decide +kernel
theorem dJ6_bitCount_0f7a4_43 : decode cJ6_bitCount_0f7a4 43 = .ok (.bipush 16, 2) := by decide +kernel
theorem dJ6_bitCount_0f7a4_45 : decode cJ6_bitCount_0f7a4 45 = .ok (.iushr, 1) := by decide +kernel
theorem dJ6_bitCount_0f7a4_46 : decode cJ6_bitCount_0f7a4 46 = .ok (.iadd, 1) := by decide +kernel
theorem dJ6_bitCount_0f7a4_47 : decode cJ6_bitCount_0f7a4 47 = .ok (.istore_n 0, 1) := by decide +kernel
theorem dJ6_bitCount_0f7a4_48 : decode cJ6_bitCount_0f7a4 48 = .ok (.iload_n 0, 1) := by decide +kernel
theorem dJ6_bitCount_0f7a4_49 : decode cJ6_bitCount_0f7a4 49 = .ok (.bipush 63, 2) := by decide +kernel
theorem dJ6_bitCount_0f7a4_51 : decode cJ6_bitCount_0f7a4 51 = .ok (.iand, 1) := by decide +kernel
theorem dJ6_bitCount_0f7a4_52 : decode cJ6_bitCount_0f7a4 52 = .ok (.ireturn, 1) := by decide +kernel
theorem dJ9_max_7cf53_0 : decode cJ9_max_7cf53 0 = .ok (.iload_n 0, 1) := by decide +kernel
theorem dJ9_max_7cf53_1 : decode cJ9_max_7cf53 1 = .ok (.iload_n 1, 1) := by decide +kernel
theorem dJ9_max_7cf53_2 : decode cJ9_max_7cf53 2 = .ok (.if_icmp .lt 7, 3) := by decide +kernel
theorem dJ9_max_7cf53_5 : decode cJ9_max_7cf53 5 = .ok (.iload_n 0, 1) := by decide +kernel
theorem dJ9_max_7cf53_6 : decode cJ9_max_7cf53 6 = .ok (.goto 4, 3) := by decide +kernel
theorem dJ9_max_7cf53_9 : decode cJ9_max_7cf53 9 = .ok (.iload_n 1, 1) := by decide +kernel
theorem dJ9_max_7cf53_10 : decode cJ9_max_7cf53 10 = .ok (.ireturn, 1) := by decide +kernel
theorem dJ9_min_7cf53_0 : decode cJ9_min_7cf53 0 = .ok (.iload_n 0, 1) := by decide +kernel
theorem dJ9_min_7cf53_1 : decode cJ9_min_7cf53 1 = .ok (.iload_n 1, 1) := by decide +kernel
theorem dJ9_min_7cf53_2 : decode cJ9_min_7cf53 2 = .ok (.if_icmp .gt 7, 3) := by decide +kernel
theorem dJ9_min_7cf53_5 : decode cJ9_min_7cf53 5 = .ok (.iload_n 0, 1) := by decide +kernel
theorem dJ9_min_7cf53_6 : decode cJ9_min_7cf53 6 = .ok (.goto 4, 3) := by decide +kernel
theorem dJ9_min_7cf53_9 : decode cJ9_min_7cf53 9 = .ok (.iload_n 1, 1) := by decide +kernel
theorem dJ9_min_7cf53_10 : decode cJ9_min_7cf53 10 = .ok (.ireturn, 1) := by decide +kernel
theorem dJ0_length_8abf5_0 : decode cJ0_length_8abf5 0 = .ok (.aload_n 0, 1) := by decide +kernel
theorem dJ0_length_8abf5_1 : decode cJ0_length_8abf5 1 = .ok (.getfield 9, 3) := by decide +kernel
theorem dJ0_length_8abf5_4 : decode cJ0_length_8abf5 4 = .ok (.arraylength, 1) := by decide +kernel
theorem dJ0_length_8abf5_5 : decode cJ0_length_8abf5 5 = .ok (.aload_n 0, 1) := by decide +kernel
theorem dJ0_length_8abf5_6 : decode cJ0_length_8abf5 6 = .ok (.invokevirtual 335, 3) := by decide +kernel
theorem dJ0_length_8abf5_9 : decode cJ0_length_8abf5 9 = .ok (.ishr, 1) := by decide +kernel
theorem dJ0_length_8abf5_10 : decode cJ0_length_8abf5 10 = .ok (.ireturn, 1) := by decide +kernel
theorem dJ0_indexOf_0f7a4_0 : decode cJ0_indexOf_0f7a4 0 = .ok (.aload_n 0, 1) := by decide +kernel
theorem dJ0_indexOf_0f7a4_1 : decode cJ0_indexOf_0f7a4 1 = .ok (.iload_n 1, 1) := by decide +kernel
theorem dJ0_indexOf_0f7a4_2 : decode cJ0_indexOf_0f7a4 2 = .ok (.iconst 0, 1) := by decide +kernel
theorem dJ0_indexOf_0f7a4_3 : decode cJ0_indexOf_0f7a4 3 = .ok (.invokevirtual 633, 3) := by decide +kernel
theorem dJ0_indexOf_0f7a4_6 : decode cJ0_indexOf_0f7a4 6 = .ok (.ireturn, 1) := by decide +kernel
theorem dJ0_indexOf_7cf53_0 : decode cJ0_indexOf_7cf53 0 = .ok (.aload_n 0, 1) := by decide +kernel
theorem dJ0_indexOf_7cf53_1 : decode cJ0_indexOf_7cf53 1 = .ok (.invokevirtual 492, 3) := by decide +kernel
theorem dJ0_indexOf_7cf53_4 : decode cJ0_indexOf_7cf53 4 = .ok (.ifCond .eq 19, 3) := by decide +kernel
theorem dJ0_indexOf_7cf53_7 : decode cJ0_indexOf_7cf53 7 = .ok (.aload_n 0, 1) := by decide +kernel
theorem dJ0_indexOf_7cf53_8 : decode cJ0_indexOf_7cf53 8 = .ok (.getfield 9, 3) := by decide +kernel
theorem dJ0_indexOf_7cf53_11 : decode cJ0_indexOf_7cf53 11 = .ok (.iload_n 1, 1) := by decide +kernel
theorem dJ0_indexOf_7cf53_12 : decode cJ0_indexOf_7cf53 12 = .ok (.iload_n 2, 1) := by decide +kernel
theorem dJ0_indexOf_7cf53_13 : decode cJ0_indexOf_7cf53 13 = .ok (.aload_n 0, 1) := by decide +kernel
theorem dJ0_indexOf_7cf53_14 : decode cJ0_indexOf_7cf53 14 = .ok (.invokevirtual 505, 3) := by decide +kernel
theorem dJ0_indexOf_7cf53_17 : decode cJ0_indexOf_7cf53 17 = .ok (.invokestatic 637, 3) := by decide +kernel
theorem dJ0_indexOf_7cf53_20 : decode cJ0_indexOf_7cf53 20 = .ok (.goto 16, 3) := by decide +kernel
theorem dJ0_indexOf_7cf53_23 : decode cJ0_indexOf_7cf53 23 = .ok (.aload_n 0, 1) := by decide +kernel
theorem dJ0_indexOf_7cf53_24 : decode cJ0_indexOf_7cf53 24 = .ok (.getfield 9, 3) := by decide +kernel
theorem dJ0_indexOf_7cf53_27 : decode cJ0_indexOf_7cf53 27 = .ok (.iload_n 1, 1) := by decide +kernel
theorem dJ0_indexOf_7cf53_28 : decode cJ0_indexOf_7cf53 28 = .ok (.iload_n 2, 1) := by decide +kernel
theorem dJ0_indexOf_7cf53_29 : decode cJ0_indexOf_7cf53 29 = .ok (.aload_n 0, 1) := by decide +kernel
theorem dJ0_indexOf_7cf53_30 : decode cJ0_indexOf_7cf53 30 = .ok (.invokevirtual 505, 3) := by decide +kernel
theorem dJ0_indexOf_7cf53_33 : decode cJ0_indexOf_7cf53 33 = .ok (.invokestatic 640, 3) := by decide +kernel
theorem dJ0_indexOf_7cf53_36 : decode cJ0_indexOf_7cf53 36 = .ok (.ireturn, 1) := by decide +kernel
theorem dJ0_coder_7d493_0 : decode cJ0_coder_7d493 0 = .ok (.getstatic 38, 3) := by decide +kernel
theorem dJ0_coder_7d493_3 : decode cJ0_coder_7d493 3 = .ok (.ifCond .eq 10, 3) := by decide +kernel
theorem dJ0_coder_7d493_6 : decode cJ0_coder_7d493 6 = .ok (.aload_n 0, 1) := by decide +kernel
theorem dJ0_coder_7d493_7 : decode cJ0_coder_7d493 7 = .ok (.getfield 15, 3) := by decide +kernel
theorem dJ0_coder_7d493_10 : decode cJ0_coder_7d493 10 = .ok (.goto 4, 3) := by decide +kernel
theorem dJ0_coder_7d493_13 : decode cJ0_coder_7d493 13 = .ok (.iconst 1, 1) := by decide +kernel
theorem dJ0_coder_7d493_14 : decode cJ0_coder_7d493 14 = .ok (.ireturn, 1) := by decide +kernel
theorem dJ0_isLatin1_aae02_0 : decode cJ0_isLatin1_aae02 0 = .ok (.getstatic 38, 3) := by decide +kernel
theorem dJ0_isLatin1_aae02_3 : decode cJ0_isLatin1_aae02 3 = .ok (.ifCond .eq 14, 3) := by decide +kernel
theorem dJ0_isLatin1_aae02_6 : decode cJ0_isLatin1_aae02 6 = .ok (.aload_n 0, 1) := by decide +kernel
theorem dJ0_isLatin1_aae02_7 : decode cJ0_isLatin1_aae02 7 = .ok (.getfield 15, 3) := by decide +kernel
theorem dJ0_isLatin1_aae02_10 : decode cJ0_isLatin1_aae02 10 = .ok (.ifCond .ne 7, 3) := by decide +kernel
theorem dJ0_isLatin1_aae02_13 : decode cJ0_isLatin1_aae02 13 = .ok (.iconst 1, 1) := by decide +kernel
theorem dJ0_isLatin1_aae02_14 : decode cJ0_isLatin1_aae02 14 = .ok (.goto 4, 3) := by decide +kernel
theorem dJ0_isLatin1_aae02_17 : decode cJ0_isLatin1_aae02 17 = .ok (.iconst 0, 1) := by decide +kernel
theorem dJ0_isLatin1_aae02_18 : decode cJ0_isLatin1_aae02 18 = .ok (.ireturn, 1) := by decide +kernel
theorem dJ0_checkBoundsBeginEnd_23922_0 : decode cJ0_checkBoundsBeginEnd_23922 0 = .ok (.iload_n 0, 1) := by decide +kernel
theorem dJ0_checkBoundsBeginEnd_23922_1 : decode cJ0_checkBoundsBeginEnd_23922 1 = .ok (.iload_n 1, 1) := by decide +kernel
theorem dJ0_checkBoundsBeginEnd_23922_2 : decode cJ0_checkBoundsBeginEnd_23922 2 = .ok (.iload_n 2, 1) := by decide +kernel
theorem dJ0_checkBoundsBeginEnd_23922_3 : decode cJ0_checkBoundsBeginEnd_23922 3 = .ok (.getstatic 1053, 3) := by decide +kernel
theorem dJ0_checkBoundsBeginEnd_23922_6 : decode cJ0_checkBoundsBeginEnd_23922 6 = .ok (.invokestatic 1062, 3) := by decide +kernel
theorem dJ0_checkBoundsBeginEnd_23922_9 : decode cJ0_checkBoundsBeginEnd_23922 9 = .ok (.pop, 1) := by decide +kernel
theorem dJ0_checkBoundsBeginEnd_23922_10 : decode cJ0_checkBoundsBeginEnd_23922 10 = .ok (.return_, 1) := by decide +kernel
theorem dJ1_canEncode_9a6ad_0 : decode cJ1_canEncode_9a6ad 0 = .ok (.iload_n 0, 1) := by decide +kernel
theorem dJ1_canEncode_9a6ad_1 : decode cJ1_canEncode_9a6ad 1 = .ok (.ifCond .lt 14, 3) := by decide +kernel
theorem dJ1_canEncode_9a6ad_4 : decode cJ1_canEncode_9a6ad 4 = .ok (.iload_n 0, 1) := by decide +kernel
theorem dJ1_canEncode_9a6ad_5 : decode cJ1_canEncode_9a6ad 5 = .ok (.sipush 255, 3) := by decide +kernel
theorem dJ1_canEncode_9a6ad_8 : decode cJ1_canEncode_9a6ad 8 = .ok (.if_icmp .gt 7, 3) := by decide +kernel
theorem dJ1_canEncode_9a6ad_11 : decode cJ1_canEncode_9a6ad 11 = .ok (.iconst 1, 1) := by decide +kernel
theorem dJ1_canEncode_9a6ad_12 : decode cJ1_canEncode_9a6ad 12 = .ok (.goto 4, 3) := by decide +kernel
theorem dJ1_canEncode_9a6ad_15 : decode cJ1_canEncode_9a6ad 15 = .ok (.iconst 0, 1) := by decide +kernel
theorem dJ1_canEncode_9a6ad_16 : decode cJ1_canEncode_9a6ad 16 = .ok (.ireturn, 1) := by decide +kernel
theorem dJ1_indexOf_4cfef_0 : decode cJ1_indexOf_4cfef 0 = .ok (.iload_n 1, 1) := by decide +kernel
theorem dJ1_indexOf_4cfef_1 : decode cJ1_indexOf_4cfef 1 = .ok (.invokestatic 88, 3) := by decide +kernel
theorem dJ1_indexOf_4cfef_4 : decode cJ1_indexOf_4cfef 4 = .ok (.ifCond .ne 5, 3) := by decide +kernel
theorem dJ1_indexOf_4cfef_7 : decode cJ1_indexOf_4cfef 7 = .ok (.iconst (-1), 1) := by decide +kernel
theorem dJ1_indexOf_4cfef_8 : decode cJ1_indexOf_4cfef 8 = .ok (.ireturn, 1) := by decide +kernel
theorem dJ1_indexOf_4cfef_9 : decode cJ1_indexOf_4cfef 9 = .ok (.iload_n 2, 1) := by decide +kernel
theorem dJ1_indexOf_4cfef_10 : decode cJ1_indexOf_4cfef 10 = .ok (.iconst 0, 1) := by decide +kernel
theorem dJ1_indexOf_4cfef_11 : decode cJ1_indexOf_4cfef 11 = .ok (.invokestatic 92, 3) := by decide +kernel
theorem dJ1_indexOf_4cfef_14 : decode cJ1_indexOf_4cfef 14 = .ok (.istore_n 2, 1) := by decide +kernel
theorem dJ1_indexOf_4cfef_15 : decode cJ1_indexOf_4cfef 15 = .ok (.iload_n 3, 1) := by decide +kernel
theorem dJ1_indexOf_4cfef_16 : decode cJ1_indexOf_4cfef 16 = .ok (.aload_n 0, 1) := by decide +kernel
theorem dJ1_indexOf_4cfef_17 : decode cJ1_indexOf_4cfef 17 = .ok (.arraylength, 1) := by decide +kernel
theorem dJ1_indexOf_4cfef_18 : decode cJ1_indexOf_4cfef 18 = .ok (.invokestatic 38, 3) := by decide +kernel
theorem dJ1_indexOf_4cfef_21 : decode cJ1_indexOf_4cfef 21 = .ok (.istore_n 3, 1) := by decide +kernel
theorem dJ1_indexOf_4cfef_22 : decode cJ1_indexOf_4cfef 22 = .ok (.iload_n 2, 1) := by decide +kernel
theorem dJ1_indexOf_4cfef_23 : decode cJ1_indexOf_4cfef 23 = .ok (.iload_n 3, 1) := by decide +kernel
theorem dJ1_indexOf_4cfef_24 : decode cJ1_indexOf_4cfef 24 = .ok (.if_icmp .lt 5, 3) := by decide +kernel
theorem dJ1_indexOf_4cfef_27 : decode cJ1_indexOf_4cfef 27 = .ok (.iconst (-1), 1) := by decide +kernel
theorem dJ1_indexOf_4cfef_28 : decode cJ1_indexOf_4cfef 28 = .ok (.ireturn, 1) := by decide +kernel
theorem dJ1_indexOf_4cfef_29 : decode cJ1_indexOf_4cfef 29 = .ok (.aload_n 0, 1) := by decide +kernel
theorem dJ1_indexOf_4cfef_30 : decode cJ1_indexOf_4cfef 30 = .ok (.iload_n 1, 1) := by decide +kernel
theorem dJ1_indexOf_4cfef_31 : decode cJ1_indexOf_4cfef 31 = .ok (.iload_n 2, 1) := by decide +kernel
theorem dJ1_indexOf_4cfef_32 : decode cJ1_indexOf_4cfef 32 = .ok (.iload_n 3, 1) := by decide +kernel
theorem dJ1_indexOf_4cfef_33 : decode cJ1_indexOf_4cfef 33 = .ok (.invokestatic 95, 3) := by decide +kernel
theorem dJ1_indexOf_4cfef_36 : decode cJ1_indexOf_4cfef 36 = .ok (.ireturn, 1) := by decide +kernel
theorem dJ1_indexOfChar_4cfef_0 : decode cJ1_indexOfChar_4cfef 0 = .ok (.iload_n 1, 1) := by decide +kernel
theorem dJ1_indexOfChar_4cfef_1 : decode cJ1_indexOfChar_4cfef 1 = .ok (.i2b, 1) := by decide +kernel
theorem dJ1_indexOfChar_4cfef_2 : decode cJ1_indexOfChar_4cfef 2 = .ok (.istore 4, 2) := by decide +kernel
theorem dJ1_indexOfChar_4cfef_4 : decode cJ1_indexOfChar_4cfef 4 = .ok (.iload_n 2, 1) := by decide +kernel
theorem dJ1_indexOfChar_4cfef_5 : decode cJ1_indexOfChar_4cfef 5 = .ok (.istore 5, 2) := by decide +kernel
theorem dJ1_indexOfChar_4cfef_7 : decode cJ1_indexOfChar_4cfef 7 = .ok (.iload 5, 2) := by decide +kernel
theorem dJ1_indexOfChar_4cfef_9 : decode cJ1_indexOfChar_4cfef 9 = .ok (.iload_n 3, 1) := by decide +kernel
theorem dJ1_indexOfChar_4cfef_10 : decode cJ1_indexOfChar_4cfef 10 = .ok (.if_icmp .ge 21, 3) := by decide +kernel
theorem dJ1_indexOfChar_4cfef_13 : decode cJ1_indexOfChar_4cfef 13 = .ok (.aload_n 0, 1) := by decide +kernel
theorem dJ1_indexOfChar_4cfef_14 : decode cJ1_indexOfChar_4cfef 14 = .ok (.iload 5, 2) := by decide +kernel
theorem dJ1_indexOfChar_4cfef_16 : decode cJ1_indexOfChar_4cfef 16 = .ok (.baload, 1) := by decide +kernel
theorem dJ1_indexOfChar_4cfef_17 : decode cJ1_indexOfChar_4cfef 17 = .ok (.iload 4, 2) := by decide +kernel
theorem dJ1_indexOfChar_4cfef_19 : decode cJ1_indexOfChar_4cfef 19 = .ok (.if_icmp .ne 6, 3) := by decide +kernel
theorem dJ1_indexOfChar_4cfef_22 : decode cJ1_indexOfChar_4cfef 22 = .ok (.iload 5, 2) := by decide +kernel
theorem dJ1_indexOfChar_4cfef_24 : decode cJ1_indexOfChar_4cfef 24 = .ok (.ireturn, 1) := by decide +kernel
theorem dJ1_indexOfChar_4cfef_25 : decode cJ1_indexOfChar_4cfef 25 = .ok (.iinc 5 1, 3) := by decide +kernel
theorem dJ1_indexOfChar_4cfef_28 : decode cJ1_indexOfChar_4cfef 28 = .ok (.goto (-21), 3) := by decide +kernel
theorem dJ1_indexOfChar_4cfef_31 : decode cJ1_indexOfChar_4cfef 31 = .ok (.iconst (-1), 1) := by decide +kernel
theorem dJ1_indexOfChar_4cfef_32 : decode cJ1_indexOfChar_4cfef 32 = .ok (.ireturn, 1) := by decide +kernel
theorem dJ2_getChar_3b067_0 : decode cJ2_getChar_3b067 0 = .ok (.getstatic 44, 3) := by decide +kernel
theorem dJ2_getChar_3b067_3 : decode cJ2_getChar_3b067 3 = .ok (.ifCond .ne 25, 3) := by decide +kernel
theorem dJ2_getChar_3b067_6 : decode cJ2_getChar_3b067 6 = .ok (.iload_n 1, 1) := by decide +kernel
theorem dJ2_getChar_3b067_7 : decode cJ2_getChar_3b067 7 = .ok (.ifCond .lt 11, 3) := by decide +kernel
theorem dJ2_getChar_3b067_10 : decode cJ2_getChar_3b067 10 = .ok (.iload_n 1, 1) := by decide +kernel
theorem dJ2_getChar_3b067_11 : decode cJ2_getChar_3b067 11 = .ok (.aload_n 0, 1) := by decide +kernel
theorem dJ2_getChar_3b067_12 : decode cJ2_getChar_3b067 12 = .ok (.invokestatic 48, 3) := by decide +kernel
theorem dJ2_getChar_3b067_15 : decode cJ2_getChar_3b067 15 = .ok (.if_icmp .lt 13, 3) := by decide +kernel
theorem dJ2_getChar_3b067_18 : decode cJ2_getChar_3b067 18 = .ok (.new 52, 3) := by decide +kernel
theorem dJ2_getChar_3b067_21 : decode cJ2_getChar_3b067 21 = .ok (.dup, 1) := by decide +kernel
theorem dJ2_getChar_3b067_22 : decode cJ2_getChar_3b067 22 = .ok (.ldc 54, 2) := by decide +kernel
theorem dJ2_getChar_3b067_24 : decode cJ2_getChar_3b067 24 = .ok (.invokespecial 56, 3) := by decide +kernel
theorem dJ2_getChar_3b067_27 : decode cJ2_getChar_3b067 27 = .ok (.athrow, 1) := by decide +kernel
theorem dJ2_getChar_3b067_28 : decode cJ2_getChar_3b067 28 = .ok (.iload_n 1, 1) := by decide +kernel
theorem dJ2_getChar_3b067_29 : decode cJ2_getChar_3b067 29 = .ok (.iconst 1, 1) := by decide +kernel
theorem dJ2_getChar_3b067_30 : decode cJ2_getChar_3b067 30 = .ok (.ishl, 1) := by decide +kernel
theorem dJ2_getChar_3b067_31 : decode cJ2_getChar_3b067 31 = .ok (.istore_n 1, 1) := by decide +kernel
theorem dJ2_getChar_3b067_32 : decode cJ2_getChar_3b067 32 = .ok (.aload_n 0, 1) := by decide +kernel
theorem dJ2_getChar_3b067_33 : decode cJ2_getChar_3b067 33 = .ok (.iload_n 1, 1) := by decide +kernel
theorem dJ2_getChar_3b067_34 : decode cJ2_getChar_3b067 34 = .ok (.iinc 1 1, 3) := by decide +kernel
theorem dJ2_getChar_3b067_37 : decode cJ2_getChar_3b067 37 = .ok (.baload, 1) := by decide +kernel
theorem dJ2_getChar_3b067_38 : decode cJ2_getChar_3b067 38 = .ok (.sipush 255, 3) := by decide +kernel
theorem dJ2_getChar_3b067_41 : decode cJ2_getChar_3b067 41 = .ok (.iand, 1) := by decide +kernel
theorem dJ2_getChar_3b067_42 : decode cJ2_getChar_3b067 42 = .ok (.getstatic 59, 3) := by decide +kernel
theorem dJ2_getChar_3b067_45 : decode cJ2_getChar_3b067 45 = .ok (.ishl, 1) := by decide +kernel
theorem dJ2_getChar_3b067_46 : decode cJ2_getChar_3b067 46 = .ok (.aload_n 0, 1) := by decide +kernel
theorem dJ2_getChar_3b067_47 : decode cJ2_getChar_3b067 47 = .ok (.iload_n 1, 1) := by decide +kernel
theorem dJ2_getChar_3b067_48 : decode cJ2_getChar_3b067 48 = .ok (.baload, 1) := by decide +kernel
theorem dJ2_getChar_3b067_49 : decode cJ2_getChar_3b067 49 = .ok (.sipush 255, 3) := by decide +kernel
theorem dJ2_getChar_3b067_52 : decode cJ2_getChar_3b067 52 = .ok (.iand, 1) := by decide +kernel
theorem dJ2_getChar_3b067_53 : decode cJ2_getChar_3b067 53 = .ok (.getstatic 63, 3) := by decide +kernel
theorem dJ2_getChar_3b067_56 : decode cJ2_getChar_3b067 56 = .ok (.ishl, 1) := by decide +kernel
theorem dJ2_getChar_3b067_57 : decode cJ2_getChar_3b067 57 = .ok (.ior, 1) := by decide +kernel
theorem dJ2_getChar_3b067_58 : decode cJ2_getChar_3b067 58 = .ok (.i2c, 1) := by decide +kernel
theorem dJ2_getChar_3b067_59 : decode cJ2_getChar_3b067 59 = .ok (.ireturn, 1) := by decide +kernel
theorem dJ2_length_9d52b_0 : decode cJ2_length_9d52b 0 = .ok (.aload_n 0, 1) := by decide +kernel
theorem dJ2_length_9d52b_1 : decode cJ2_length_9d52b 1 = .ok (.arraylength, 1) := by decide +kernel
theorem dJ2_length_9d52b_2 : decode cJ2_length_9d52b 2 = .ok (.iconst 1, 1) := by decide +kernel
theorem dJ2_length_9d52b_3 : decode cJ2_length_9d52b 3 = .ok (.ishr, 1) := by decide +kernel
theorem dJ2_length_9d52b_4 : decode cJ2_length_9d52b 4 = .ok (.ireturn, 1) := by decide +kernel
theorem dJ2_indexOf_4cfef_0 : decode cJ2_indexOf_4cfef 0 = .ok (.iload_n 2, 1) := by decide +kernel
theorem dJ2_indexOf_4cfef_1 : decode cJ2_indexOf_4cfef 1 = .ok (.iconst 0, 1) := by decide +kernel
theorem dJ2_indexOf_4cfef_2 : decode cJ2_indexOf_4cfef 2 = .ok (.invokestatic 224, 3) := by decide +kernel
theorem dJ2_indexOf_4cfef_5 : decode cJ2_indexOf_4cfef 5 = .ok (.istore_n 2, 1) := by decide +kernel
theorem dJ2_indexOf_4cfef_6 : decode cJ2_indexOf_4cfef 6 = .ok (.iload_n 3, 1) := by decide +kernel
theorem dJ2_indexOf_4cfef_7 : decode cJ2_indexOf_4cfef 7 = .ok (.aload_n 0, 1) := by decide +kernel
theorem dJ2_indexOf_4cfef_8 : decode cJ2_indexOf_4cfef 8 = .ok (.arraylength, 1) := by decide +kernel
theorem dJ2_indexOf_4cfef_9 : decode cJ2_indexOf_4cfef 9 = .ok (.iconst 1, 1) := by decide +kernel
theorem dJ2_indexOf_4cfef_10 : decode cJ2_indexOf_4cfef 10 = .ok (.ishr, 1) := by decide +kernel
theorem dJ2_indexOf_4cfef_11 : decode cJ2_indexOf_4cfef 11 = .ok (.invokestatic 183, 3) := by decide +kernel
theorem dJ2_indexOf_4cfef_14 : decode cJ2_indexOf_4cfef 14 = .ok (.istore_n 3, 1) := by decide +kernel
theorem dJ2_indexOf_4cfef_15 : decode cJ2_indexOf_4cfef 15 = .ok (.iload_n 2, 1) := by decide +kernel
theorem dJ2_indexOf_4cfef_16 : decode cJ2_indexOf_4cfef 16 = .ok (.iload_n 3, 1) := by decide +kernel
theorem dJ2_indexOf_4cfef_17 : decode cJ2_indexOf_4cfef 17 = .ok (.if_icmp .lt 5, 3) := by decide +kernel
theorem dJ2_indexOf_4cfef_20 : decode cJ2_indexOf_4cfef 20 = .ok (.iconst (-1), 1) := by decide +kernel
theorem dJ2_indexOf_4cfef_21 : decode cJ2_indexOf_4cfef 21 = .ok (.ireturn, 1) := by decide +kernel
theorem dJ2_indexOf_4cfef_22 : decode cJ2_indexOf_4cfef 22 = .ok (.iload_n 1, 1) := by decide +kernel
theorem dJ2_indexOf_4cfef_23 : decode cJ2_indexOf_4cfef 23 = .ok (.ldc 227, 2) := by decide +kernel
theorem dJ2_indexOf_4cfef_25 : decode cJ2_indexOf_4cfef 25 = .ok (.if_icmp .ge 11, 3) := by decide +kernel
theorem dJ2_indexOf_4cfef_28 : decode cJ2_indexOf_4cfef 28 = .ok (.aload_n 0, 1) := by decide +kernel
theorem dJ2_indexOf_4cfef_29 : decode cJ2_indexOf_4cfef 29 = .ok (.iload_n 1, 1) := by decide +kernel
theorem dJ2_indexOf_4cfef_30 : decode cJ2_indexOf_4cfef 30 = .ok (.iload_n 2, 1) := by decide +kernel
theorem dJ2_indexOf_4cfef_31 : decode cJ2_indexOf_4cfef 31 = .ok (.iload_n 3, 1) := by decide +kernel
theorem dJ2_indexOf_4cfef_32 : decode cJ2_indexOf_4cfef 32 = .ok (.invokestatic 228, 3) := by decide +kernel
theorem dJ2_indexOf_4cfef_35 : decode cJ2_indexOf_4cfef 35 = .ok (.ireturn, 1) := by decide +kernel
theorem dJ2_indexOf_4cfef_36 : decode cJ2_indexOf_4cfef 36 = .ok (.aload_n 0, 1) := by decide +kernel
theorem dJ2_indexOf_4cfef_37 : decode cJ2_indexOf_4cfef 37 = .ok (.iload_n 1, 1) := by decide +kernel
theorem dJ2_indexOf_4cfef_38 : decode cJ2_indexOf_4cfef 38 = .ok (.iload_n 2, 1) := by decide +kernel
theorem dJ2_indexOf_4cfef_39 : decode cJ2_indexOf_4cfef 39 = .ok (.iload_n 3, 1) := by decide +kernel
theorem dJ2_indexOf_4cfef_40 : decode cJ2_indexOf_4cfef 40 = .ok (.invokestatic 232, 3) := by decide +kernel
theorem dJ2_indexOf_4cfef_43 : decode cJ2_indexOf_4cfef 43 = .ok (.ireturn, 1) := by decide +kernel
theorem dJ2_indexOfChar_4cfef_0 : decode cJ2_indexOfChar_4cfef 0 = .ok (.iload_n 2, 1) := by decide +kernel
theorem dJ2_indexOfChar_4cfef_1 : decode cJ2_indexOfChar_4cfef 1 = .ok (.iload_n 3, 1) := by decide +kernel
theorem dJ2_indexOfChar_4cfef_2 : decode cJ2_indexOfChar_4cfef 2 = .ok (.aload_n 0, 1) := by decide +kernel
theorem dJ2_indexOfChar_4cfef_3 : decode cJ2_indexOfChar_4cfef 3 = .ok (.invokestatic 96, 3) := by decide +kernel
theorem dJ2_indexOfChar_4cfef_6 : decode cJ2_indexOfChar_4cfef 6 = .ok (.aload_n 0, 1) := by decide +kernel
theorem dJ2_indexOfChar_4cfef_7 : decode cJ2_indexOfChar_4cfef 7 = .ok (.iload_n 1, 1) := by decide +kernel
theorem dJ2_indexOfChar_4cfef_8 : decode cJ2_indexOfChar_4cfef 8 = .ok (.iload_n 2, 1) := by decide +kernel
theorem dJ2_indexOfChar_4cfef_9 : decode cJ2_indexOfChar_4cfef 9 = .ok (.iload_n 3, 1) := by decide +kernel
theorem dJ2_indexOfChar_4cfef_10 : decode cJ2_indexOfChar_4cfef 10 = .ok (.invokestatic 244, 3) := by decide +kernel
theorem dJ2_indexOfChar_4cfef_13 : decode cJ2_indexOfChar_4cfef 13 = .ok (.ireturn, 1) := by decide +kernel
theorem dJ2_indexOfCharUnsafe_4cfef_0 : decode cJ2_indexOfCharUnsafe_4cfef 0 = .ok (.iload_n 2, 1) := by decide +kernel
theorem dJ2_indexOfCharUnsafe_4cfef_1 : decode cJ2_indexOfCharUnsafe_4cfef 1 = .ok (.istore 4, 2) := by decide +kernel
theorem dJ2_indexOfCharUnsafe_4cfef_3 : decode cJ2_indexOfCharUnsafe_4cfef 3 = .ok (.iload 4, 2) := by decide +kernel
theorem dJ2_indexOfCharUnsafe_4cfef_5 : decode cJ2_indexOfCharUnsafe_4cfef 5 = .ok (.iload_n 3, 1) := by decide +kernel
theorem dJ2_indexOfCharUnsafe_4cfef_6 : decode cJ2_indexOfCharUnsafe_4cfef 6 = .ok (.if_icmp .ge 22, 3) := by decide +kernel
theorem dJ2_indexOfCharUnsafe_4cfef_9 : decode cJ2_indexOfCharUnsafe_4cfef 9 = .ok (.aload_n 0, 1) := by decide +kernel
theorem dJ2_indexOfCharUnsafe_4cfef_10 : decode cJ2_indexOfCharUnsafe_4cfef 10 = .ok (.iload 4, 2) := by decide +kernel
theorem dJ2_indexOfCharUnsafe_4cfef_12 : decode cJ2_indexOfCharUnsafe_4cfef 12 = .ok (.invokestatic 71, 3) := by decide +kernel
theorem dJ2_indexOfCharUnsafe_4cfef_15 : decode cJ2_indexOfCharUnsafe_4cfef 15 = .ok (.iload_n 1, 1) := by decide +kernel
theorem dJ2_indexOfCharUnsafe_4cfef_16 : decode cJ2_indexOfCharUnsafe_4cfef 16 = .ok (.if_icmp .ne 6, 3) := by decide +kernel
theorem dJ2_indexOfCharUnsafe_4cfef_19 : decode cJ2_indexOfCharUnsafe_4cfef 19 = .ok (.iload 4, 2) := by decide +kernel
theorem dJ2_indexOfCharUnsafe_4cfef_21 : decode cJ2_indexOfCharUnsafe_4cfef 21 = .ok (.ireturn, 1) := by decide +kernel
theorem dJ2_indexOfCharUnsafe_4cfef_22 : decode cJ2_indexOfCharUnsafe_4cfef 22 = .ok (.iinc 4 1, 3) := by decide +kernel
theorem dJ2_indexOfCharUnsafe_4cfef_25 : decode cJ2_indexOfCharUnsafe_4cfef 25 = .ok (.goto (-22), 3) := by decide +kernel
theorem dJ2_indexOfCharUnsafe_4cfef_28 : decode cJ2_indexOfCharUnsafe_4cfef 28 = .ok (.iconst (-1), 1) := by decide +kernel
theorem dJ2_indexOfCharUnsafe_4cfef_29 : decode cJ2_indexOfCharUnsafe_4cfef 29 = .ok (.ireturn, 1) := by decide +kernel
theorem dJ2_indexOfSupplementary_4cfef_0 : decode cJ2_indexOfSupplementary_4cfef 0 = .ok (.iload_n 1, 1) := by decide +kernel
theorem dJ2_indexOfSupplementary_4cfef_1 : decode cJ2_indexOfSupplementary_4cfef 1 = .ok (.invokestatic 164, 3) := by decide +kernel
theorem dJ2_indexOfSupplementary_4cfef_4 : decode cJ2_indexOfSupplementary_4cfef 4 = .ok (.ifCond .eq 65, 3) := by decide +kernel
theorem dJ2_indexOfSupplementary_4cfef_7 : decode cJ2_indexOfSupplementary_4cfef 7 = .ok (.iload_n 1, 1) := by decide +kernel
theorem dJ2_indexOfSupplementary_4cfef_8 : decode cJ2_indexOfSupplementary_4cfef 8 = .ok (.invokestatic 157, 3) := by decide +kernel
theorem dJ2_indexOfSupplementary_4cfef_11 : decode cJ2_indexOfSupplementary_4cfef 11 = .ok (.istore 4, 2) := by decide +kernel
theorem dJ2_indexOfSupplementary_4cfef_13 : decode cJ2_indexOfSupplementary_4cfef 13 = .ok (.iload_n 1, 1) := by decide +kernel
theorem dJ2_indexOfSupplementary_4cfef_14 : decode cJ2_indexOfSupplementary_4cfef 14 = .ok (.invokestatic 161, 3) := by decide +kernel
theorem dJ2_indexOfSupplementary_4cfef_17 : decode cJ2_indexOfSupplementary_4cfef 17 = .ok (.istore 5, 2) := by decide +kernel
theorem dJ2_indexOfSupplementary_4cfef_19 : decode cJ2_indexOfSupplementary_4cfef 19 = .ok (.iload_n 2, 1) := by decide +kernel
theorem dJ2_indexOfSupplementary_4cfef_20 : decode cJ2_indexOfSupplementary_4cfef 20 = .ok (.iload_n 3, 1) := by decide +kernel
theorem dJ2_indexOfSupplementary_4cfef_21 : decode cJ2_indexOfSupplementary_4cfef 21 = .ok (.aload_n 0, 1) := by decide +kernel
theorem dJ2_indexOfSupplementary_4cfef_22 : decode cJ2_indexOfSupplementary_4cfef 22 = .ok (.invokestatic 96, 3) := by decide +kernel
theorem dJ2_indexOfSupplementary_4cfef_25 : decode cJ2_indexOfSupplementary_4cfef 25 = .ok (.iload_n 2, 1) := by decide +kernel
theorem dJ2_indexOfSupplementary_4cfef_26 : decode cJ2_indexOfSupplementary_4cfef 26 = .ok (.istore 6, 2) := by decide +kernel
theorem dJ2_indexOfSupplementary_4cfef_28 : decode cJ2_indexOfSupplementary_4cfef 28 = .ok (.iload 6, 2) := by decide +kernel
theorem dJ2_indexOfSupplementary_4cfef_30 : decode cJ2_indexOfSupplementary_4cfef 30 = .ok (.iload_n 3, 1) := by decide +kernel
theorem dJ2_indexOfSupplementary_4cfef_31 : decode cJ2_indexOfSupplementary_4cfef 31 = .ok (.iconst 1, 1) := by decide +kernel
theorem dJ2_indexOfSupplementary_4cfef_32 : decode cJ2_indexOfSupplementary_4cfef 32 = .ok (.isub, 1) := by decide +kernel
theorem dJ2_indexOfSupplementary_4cfef_33 : decode cJ2_indexOfSupplementary_4cfef 33 = .ok (.if_icmp .ge 36, 3) := by decide +kernel
theorem dJ2_indexOfSupplementary_4cfef_36 : decode cJ2_indexOfSupplementary_4cfef 36 = .ok (.aload_n 0, 1) := by decide +kernel
theorem dJ2_indexOfSupplementary_4cfef_37 : decode cJ2_indexOfSupplementary_4cfef 37 = .ok (.iload 6, 2) := by decide +kernel
theorem dJ2_indexOfSupplementary_4cfef_39 : decode cJ2_indexOfSupplementary_4cfef 39 = .ok (.invokestatic 71, 3) := by decide +kernel
theorem dJ2_indexOfSupplementary_4cfef_42 : decode cJ2_indexOfSupplementary_4cfef 42 = .ok (.iload 4, 2) := by decide +kernel
theorem dJ2_indexOfSupplementary_4cfef_44 : decode cJ2_indexOfSupplementary_4cfef 44 = .ok (.if_icmp .ne 19, 3) := by decide +kernel
theorem dJ2_indexOfSupplementary_4cfef_47 : decode cJ2_indexOfSupplementary_4cfef 47 = .ok (.aload_n 0, 1) := by decide +kernel
theorem dJ2_indexOfSupplementary_4cfef_48 : decode cJ2_indexOfSupplementary_4cfef 48 = .ok (.iload 6, 2) := by decide +kernel
theorem dJ2_indexOfSupplementary_4cfef_50 : decode cJ2_indexOfSupplementary_4cfef 50 = .ok (.iconst 1, 1) := by decide +kernel
theorem dJ2_indexOfSupplementary_4cfef_51 : decode cJ2_indexOfSupplementary_4cfef 51 = .ok (.iadd, 1) := by decide +kernel
theorem dJ2_indexOfSupplementary_4cfef_52 : decode cJ2_indexOfSupplementary_4cfef 52 = .ok (.invokestatic 71, 3) := by decide +kernel
theorem dJ2_indexOfSupplementary_4cfef_55 : decode cJ2_indexOfSupplementary_4cfef 55 = .ok (.iload 5, 2) := by decide +kernel
theorem dJ2_indexOfSupplementary_4cfef_57 : decode cJ2_indexOfSupplementary_4cfef 57 = .ok (.if_icmp .ne 6, 3) := by decide +kernel
theorem dJ2_indexOfSupplementary_4cfef_60 : decode cJ2_indexOfSupplementary_4cfef 60 = .ok (.iload 6, 2) := by decide +kernel
theorem dJ2_indexOfSupplementary_4cfef_62 : decode cJ2_indexOfSupplementary_4cfef 62 = .ok (.ireturn, 1) := by decide +kernel
theorem dJ2_indexOfSupplementary_4cfef_63 : decode cJ2_indexOfSupplementary_4cfef 63 = .ok (.iinc 6 1, 3) := by decide +kernel
theorem dJ2_indexOfSupplementary_4cfef_66 : decode cJ2_indexOfSupplementary_4cfef 66 = .ok (.goto (-38), 3) := by decide +kernel
theorem dJ2_indexOfSupplementary_4cfef_69 : decode cJ2_indexOfSupplementary_4cfef 69 = .ok (.iconst (-1), 1) := by decide +kernel
theorem dJ2_indexOfSupplementary_4cfef_70 : decode cJ2_indexOfSupplementary_4cfef 70 = .ok (.ireturn, 1) := by decide +kernel
theorem dJ2_checkBoundsBeginEnd_d044e_0 : decode cJ2_checkBoundsBeginEnd_d044e 0 = .ok (.iload_n 0, 1) := by decide +kernel
theorem dJ2_checkBoundsBeginEnd_d044e_1 : decode cJ2_checkBoundsBeginEnd_d044e 1 = .ok (.iload_n 1, 1) := by decide +kernel
theorem dJ2_checkBoundsBeginEnd_d044e_2 : decode cJ2_checkBoundsBeginEnd_d044e 2 = .ok (.aload_n 2, 1) := by decide +kernel
theorem dJ2_checkBoundsBeginEnd_d044e_3 : decode cJ2_checkBoundsBeginEnd_d044e 3 = .ok (.invokestatic 48, 3) := by decide +kernel
theorem dJ2_checkBoundsBeginEnd_d044e_6 : decode cJ2_checkBoundsBeginEnd_d044e 6 = .ok (.invokestatic 241, 3) := by decide +kernel
theorem dJ2_checkBoundsBeginEnd_d044e_9 : decode cJ2_checkBoundsBeginEnd_d044e 9 = .ok (.return_, 1) := by decide +kernel
theorem dJ3_checkFromToIndex_8c36e_0 : decode cJ3_checkFromToIndex_8c36e 0 = .ok (.iload_n 0, 1) := by decide +kernel
theorem dJ3_checkFromToIndex_8c36e_1 : decode cJ3_checkFromToIndex_8c36e 1 = .ok (.ifCond .lt 13, 3) := by decide +kernel
theorem dJ3_checkFromToIndex_8c36e_4 : decode cJ3_checkFromToIndex_8c36e 4 = .ok (.iload_n 0, 1) := by decide +kernel
theorem dJ3_checkFromToIndex_8c36e_5 : decode cJ3_checkFromToIndex_8c36e 5 = .ok (.iload_n 1, 1) := by decide +kernel
theorem dJ3_checkFromToIndex_8c36e_6 : decode cJ3_checkFromToIndex_8c36e 6 = .ok (.if_icmp .gt 8, 3) := by decide +kernel
theorem dJ3_checkFromToIndex_8c36e_9 : decode cJ3_checkFromToIndex_8c36e 9 = .ok (.iload_n 1, 1) := by decide +kernel
theorem dJ3_checkFromToIndex_8c36e_10 : decode cJ3_checkFromToIndex_8c36e 10 = .ok (.iload_n 2, 1) := by decide +kernel
theorem dJ3_checkFromToIndex_8c36e_11 : decode cJ3_checkFromToIndex_8c36e 11 = .ok (.if_icmp .le 11, 3) := by decide +kernel
theorem dJ3_checkFromToIndex_8c36e_14 : decode cJ3_checkFromToIndex_8c36e 14 = .ok (.aload_n 3, 1) := by decide +kernel
theorem dJ3_checkFromToIndex_8c36e_15 : decode cJ3_checkFromToIndex_8c36e 15 = .ok (.iload_n 0, 1) := by decide +kernel
theorem dJ3_checkFromToIndex_8c36e_16 : decode cJ3_checkFromToIndex_8c36e 16 = .ok (.iload_n 1, 1) := by decide +kernel
theorem dJ3_checkFromToIndex_8c36e_17 : decode cJ3_checkFromToIndex_8c36e 17 = .ok (.iload_n 2, 1) := by decide +kernel
theorem dJ3_checkFromToIndex_8c36e_18 : decode cJ3_checkFromToIndex_8c36e 18 = .ok (.invokestatic 99, 3) := by decide +kernel
theorem dJ3_checkFromToIndex_8c36e_21 : decode cJ3_checkFromToIndex_8c36e 21 = .ok (.athrow, 1) := by decide +kernel
theorem dJ3_checkFromToIndex_8c36e_22 : decode cJ3_checkFromToIndex_8c36e 22 = .ok (.iload_n 0, 1) := by decide +kernel
theorem dJ3_checkFromToIndex_8c36e_23 : decode cJ3_checkFromToIndex_8c36e 23 = .ok (.ireturn, 1) := by decide +kernel
