theorem d_K_callSystem_0 : decode b_K_callSystem 0 = .ok (.aload_n 0, 1) := by decide +kernel
theorem d_K_callSystem_1 : decode b_K_callSystem 1 = .ok (.getfield 11, 3) := by decide +kernel
theorem d_K_callSystem_4 : decode b_K_callSystem 4 = .ok (.iload_n 1, 1) := by decide +kernel
theorem d_K_callSystem_5 : decode b_K_callSystem 5 = .ok (.aaload, 1) := by decide +kernel
theorem d_K_callSystem_6 : decode b_K_callSystem 6 = .ok (.astore 4, 2) := by decide +kernel
theorem d_K_callSystem_8 : decode b_K_callSystem 8 = .ok (.iload_n 3, 1) := by decide +kernel
theorem d_K_callSystem_9 : decode b_K_callSystem 9 = .ok (.tableswitch 100 0 5 #[39, 52, 60, 67, 82, 90], 39) := by decide +kernel
theorem d_K_callSystem_48 : decode b_K_callSystem 48 = .ok (.aload_n 0, 1) := by decide +kernel
theorem d_K_callSystem_49 : decode b_K_callSystem 49 = .ok (.aload 4, 2) := by decide +kernel
theorem d_K_callSystem_51 : decode b_K_callSystem 51 = .ok (.getfield 88, 3) := by decide +kernel
theorem d_K_callSystem_54 : decode b_K_callSystem 54 = .ok (.iload_n 2, 1) := by decide +kernel
theorem d_K_callSystem_55 : decode b_K_callSystem 55 = .ok (.iaload, 1) := by decide +kernel
theorem d_K_callSystem_56 : decode b_K_callSystem 56 = .ok (.invokevirtual 158, 3) := by decide +kernel
theorem d_K_callSystem_59 : decode b_K_callSystem 59 = .ok (.iconst 1, 1) := by decide +kernel
theorem d_K_callSystem_60 : decode b_K_callSystem 60 = .ok (.ireturn, 1) := by decide +kernel
theorem d_K_callSystem_61 : decode b_K_callSystem 61 = .ok (.aload_n 0, 1) := by decide +kernel
theorem d_K_callSystem_62 : decode b_K_callSystem 62 = .ok (.iload_n 1, 1) := by decide +kernel
theorem d_K_callSystem_63 : decode b_K_callSystem 63 = .ok (.iload_n 2, 1) := by decide +kernel
theorem d_K_callSystem_64 : decode b_K_callSystem 64 = .ok (.invokevirtual 161, 3) := by decide +kernel
theorem d_K_callSystem_67 : decode b_K_callSystem 67 = .ok (.iconst 1, 1) := by decide +kernel
theorem d_K_callSystem_68 : decode b_K_callSystem 68 = .ok (.ireturn, 1) := by decide +kernel
theorem d_K_callSystem_69 : decode b_K_callSystem 69 = .ok (.aload_n 0, 1) := by decide +kernel
theorem d_K_callSystem_70 : decode b_K_callSystem 70 = .ok (.iconst 1, 1) := by decide +kernel
theorem d_K_callSystem_71 : decode b_K_callSystem 71 = .ok (.putfield 136, 3) := by decide +kernel
theorem d_K_callSystem_74 : decode b_K_callSystem 74 = .ok (.iconst 1, 1) := by decide +kernel
theorem d_K_callSystem_75 : decode b_K_callSystem 75 = .ok (.ireturn, 1) := by decide +kernel
theorem d_K_callSystem_76 : decode b_K_callSystem 76 = .ok (.aload_n 0, 1) := by decide +kernel
theorem d_K_callSystem_77 : decode b_K_callSystem 77 = .ok (.aload 4, 2) := by decide +kernel
theorem d_K_callSystem_79 : decode b_K_callSystem 79 = .ok (.aload 4, 2) := by decide +kernel
theorem d_K_callSystem_81 : decode b_K_callSystem 81 = .ok (.getfield 88, 3) := by decide +kernel
theorem d_K_callSystem_84 : decode b_K_callSystem 84 = .ok (.iload_n 2, 1) := by decide +kernel
theorem d_K_callSystem_85 : decode b_K_callSystem 85 = .ok (.iaload, 1) := by decide +kernel
theorem d_K_callSystem_86 : decode b_K_callSystem 86 = .ok (.invokevirtual 164, 3) := by decide +kernel
theorem d_K_callSystem_89 : decode b_K_callSystem 89 = .ok (.iconst 1, 1) := by decide +kernel
theorem d_K_callSystem_90 : decode b_K_callSystem 90 = .ok (.ireturn, 1) := by decide +kernel
theorem d_K_callSystem_91 : decode b_K_callSystem 91 = .ok (.aload_n 0, 1) := by decide +kernel
theorem d_K_callSystem_92 : decode b_K_callSystem 92 = .ok (.iload_n 1, 1) := by decide +kernel
theorem d_K_callSystem_93 : decode b_K_callSystem 93 = .ok (.iload_n 2, 1) := by decide +kernel
theorem d_K_callSystem_94 : decode b_K_callSystem 94 = .ok (.invokevirtual 168, 3) := by decide +kernel
theorem d_K_callSystem_97 : decode b_K_callSystem 97 = .ok (.iconst 1, 1) := by decide +kernel
theorem d_K_callSystem_98 : decode b_K_callSystem 98 = .ok (.ireturn, 1) := by decide +kernel
theorem d_K_callSystem_99 : decode b_K_callSystem 99 = .ok (.aload 4, 2) := by decide +kernel
theorem d_K_callSystem_101 : decode b_K_callSystem 101 = .ok (.getfield 88, 3) := by decide +kernel
theorem d_K_callSystem_104 : decode b_K_callSystem 104 = .ok (.iload_n 2, 1) := by decide +kernel
theorem d_K_callSystem_105 : decode b_K_callSystem 105 = .ok (.iload_n 1, 1) := by decide +kernel
theorem d_K_callSystem_106 : decode b_K_callSystem 106 = .ok (.iastore, 1) := by decide +kernel
theorem d_K_callSystem_107 : decode b_K_callSystem 107 = .ok (.iconst 1, 1) := by decide +kernel
theorem d_K_callSystem_108 : decode b_K_callSystem 108 = .ok (.ireturn, 1) := by decide +kernel
theorem d_K_callSystem_109 : decode b_K_callSystem 109 = .ok (.iconst 0, 1) := by decide +kernel
theorem d_K_callSystem_110 : decode b_K_callSystem 110 = .ok (.ireturn, 1) := by decide +kernel
theorem d_K_print_0 : decode b_K_print 0 = .ok (.aload_n 0, 1) := by decide +kernel
theorem d_K_print_1 : decode b_K_print 1 = .ok (.getfield 99, 3) := by decide +kernel
theorem d_K_print_4 : decode b_K_print 4 = .ok (.bipush 40, 2) := by decide +kernel
theorem d_K_print_6 : decode b_K_print 6 = .ok (.if_icmp .ge 13, 3) := by decide +kernel
theorem d_K_print_9 : decode b_K_print 9 = .ok (.aload_n 0, 1) := by decide +kernel
theorem d_K_print_10 : decode b_K_print 10 = .ok (.getfield 22, 3) := by decide +kernel
theorem d_K_print_13 : decode b_K_print 13 = .ok (.aload_n 0, 1) := by decide +kernel
theorem d_K_print_14 : decode b_K_print 14 = .ok (.getfield 99, 3) := by decide +kernel
theorem d_K_print_17 : decode b_K_print 17 = .ok (.iload_n 1, 1) := by decide +kernel
theorem d_K_print_18 : decode b_K_print 18 = .ok (.iastore, 1) := by decide +kernel
theorem d_K_print_19 : decode b_K_print 19 = .ok (.aload_n 0, 1) := by decide +kernel
theorem d_K_print_20 : decode b_K_print 20 = .ok (.dup, 1) := by decide +kernel
theorem d_K_print_21 : decode b_K_print 21 = .ok (.getfield 99, 3) := by decide +kernel
theorem d_K_print_24 : decode b_K_print 24 = .ok (.iconst 1, 1) := by decide +kernel
theorem d_K_print_25 : decode b_K_print 25 = .ok (.iadd, 1) := by decide +kernel
theorem d_K_print_26 : decode b_K_print 26 = .ok (.putfield 99, 3) := by decide +kernel
theorem d_K_print_29 : decode b_K_print 29 = .ok (.return_, 1) := by decide +kernel
theorem d_K_fork_0 : decode b_K_fork 0 = .ok (.aload_n 0, 1) := by decide +kernel
theorem d_K_fork_1 : decode b_K_fork 1 = .ok (.getfield 11, 3) := by decide +kernel
theorem d_K_fork_4 : decode b_K_fork 4 = .ok (.iload_n 1, 1) := by decide +kernel
theorem d_K_fork_5 : decode b_K_fork 5 = .ok (.aaload, 1) := by decide +kernel
theorem d_K_fork_6 : decode b_K_fork 6 = .ok (.astore_n 3, 1) := by decide +kernel
theorem d_K_fork_7 : decode b_K_fork 7 = .ok (.aload_n 0, 1) := by decide +kernel
theorem d_K_fork_8 : decode b_K_fork 8 = .ok (.invokevirtual 31, 3) := by decide +kernel
theorem d_K_fork_11 : decode b_K_fork 11 = .ok (.istore 4, 2) := by decide +kernel
theorem d_K_fork_13 : decode b_K_fork 13 = .ok (.iload 4, 2) := by decide +kernel
theorem d_K_fork_15 : decode b_K_fork 15 = .ok (.bipush (-2), 2) := by decide +kernel
theorem d_K_fork_17 : decode b_K_fork 17 = .ok (.if_icmp .ne 12, 3) := by decide +kernel
theorem d_K_fork_20 : decode b_K_fork 20 = .ok (.aload_n 3, 1) := by decide +kernel
theorem d_K_fork_21 : decode b_K_fork 21 = .ok (.getfield 88, 3) := by decide +kernel
theorem d_K_fork_24 : decode b_K_fork 24 = .ok (.iload_n 2, 1) := by decide +kernel
theorem d_K_fork_25 : decode b_K_fork 25 = .ok (.bipush (-2), 2) := by decide +kernel
theorem d_K_fork_27 : decode b_K_fork 27 = .ok (.iastore, 1) := by decide +kernel
theorem d_K_fork_28 : decode b_K_fork 28 = .ok (.return_, 1) := by decide +kernel
theorem d_K_fork_29 : decode b_K_fork 29 = .ok (.aload_n 0, 1) := by decide +kernel
theorem d_K_fork_30 : decode b_K_fork 30 = .ok (.getfield 11, 3) := by decide +kernel
theorem d_K_fork_33 : decode b_K_fork 33 = .ok (.iload 4, 2) := by decide +kernel
theorem d_K_fork_35 : decode b_K_fork 35 = .ok (.aaload, 1) := by decide +kernel
theorem d_K_fork_36 : decode b_K_fork 36 = .ok (.astore 5, 2) := by decide +kernel
theorem d_K_fork_38 : decode b_K_fork 38 = .ok (.aload 5, 2) := by decide +kernel
theorem d_K_fork_40 : decode b_K_fork 40 = .ok (.iload_n 1, 1) := by decide +kernel
theorem d_K_fork_41 : decode b_K_fork 41 = .ok (.invokevirtual 35, 3) := by decide +kernel
theorem d_K_fork_44 : decode b_K_fork 44 = .ok (.aload 5, 2) := by decide +kernel
theorem d_K_fork_46 : decode b_K_fork 46 = .ok (.aload_n 3, 1) := by decide +kernel
theorem d_K_fork_47 : decode b_K_fork 47 = .ok (.getfield 143, 3) := by decide +kernel
theorem d_K_fork_50 : decode b_K_fork 50 = .ok (.putfield 143, 3) := by decide +kernel
theorem d_K_fork_53 : decode b_K_fork 53 = .ok (.iconst 0, 1) := by decide +kernel
theorem d_K_fork_54 : decode b_K_fork 54 = .ok (.istore 6, 2) := by decide +kernel
theorem d_K_fork_56 : decode b_K_fork 56 = .ok (.iload 6, 2) := by decide +kernel
theorem d_K_fork_58 : decode b_K_fork 58 = .ok (.iconst 4, 1) := by decide +kernel
theorem d_K_fork_59 : decode b_K_fork 59 = .ok (.if_icmp .ge 24, 3) := by decide +kernel
theorem d_K_fork_62 : decode b_K_fork 62 = .ok (.aload 5, 2) := by decide +kernel
theorem d_K_fork_64 : decode b_K_fork 64 = .ok (.getfield 88, 3) := by decide +kernel
theorem d_K_fork_67 : decode b_K_fork 67 = .ok (.iload 6, 2) := by decide +kernel
theorem d_K_fork_69 : decode b_K_fork 69 = .ok (.aload_n 3, 1) := by decide +kernel
theorem d_K_fork_70 : decode b_K_fork 70 = .ok (.getfield 88, 3) := by decide +kernel
theorem d_K_fork_73 : decode b_K_fork 73 = .ok (.iload 6, 2) := by decide +kernel
theorem d_K_fork_75 : decode b_K_fork 75 = .ok (.iaload, 1) := by decide +kernel
theorem d_K_fork_76 : decode b_K_fork 76 = .ok (.iastore, 1) := by decide +kernel
theorem d_K_fork_77 : decode b_K_fork 77 = .ok (.iinc 6 1, 3) := by decide +kernel
theorem d_K_fork_80 : decode b_K_fork 80 = .ok (.goto (-24), 3) := by decide +kernel
theorem d_K_fork_83 : decode b_K_fork 83 = .ok (.aload 5, 2) := by decide +kernel
theorem d_K_fork_85 : decode b_K_fork 85 = .ok (.getfield 88, 3) := by decide +kernel
theorem d_K_fork_88 : decode b_K_fork 88 = .ok (.iload_n 2, 1) := by decide +kernel
theorem d_K_fork_89 : decode b_K_fork 89 = .ok (.iconst (-1), 1) := by decide +kernel
theorem d_K_fork_90 : decode b_K_fork 90 = .ok (.iastore, 1) := by decide +kernel
theorem d_K_fork_91 : decode b_K_fork 91 = .ok (.aload_n 3, 1) := by decide +kernel
theorem d_K_fork_92 : decode b_K_fork 92 = .ok (.getfield 88, 3) := by decide +kernel
theorem d_K_fork_95 : decode b_K_fork 95 = .ok (.iload_n 2, 1) := by decide +kernel
theorem d_K_fork_96 : decode b_K_fork 96 = .ok (.iload 4, 2) := by decide +kernel
theorem d_K_fork_98 : decode b_K_fork 98 = .ok (.iastore, 1) := by decide +kernel
theorem d_K_fork_99 : decode b_K_fork 99 = .ok (.iconst 0, 1) := by decide +kernel
theorem d_K_fork_100 : decode b_K_fork 100 = .ok (.istore 6, 2) := by decide +kernel
theorem d_K_fork_102 : decode b_K_fork 102 = .ok (.iload 6, 2) := by decide +kernel
theorem d_K_fork_104 : decode b_K_fork 104 = .ok (.bipush 8, 2) := by decide +kernel
theorem d_K_fork_106 : decode b_K_fork 106 = .ok (.if_icmp .ge 44, 3) := by decide +kernel
theorem d_K_fork_109 : decode b_K_fork 109 = .ok (.aload_n 3, 1) := by decide +kernel
theorem d_K_fork_110 : decode b_K_fork 110 = .ok (.getfield 53, 3) := by decide +kernel
theorem d_K_fork_113 : decode b_K_fork 113 = .ok (.iload 6, 2) := by decide +kernel
theorem d_K_fork_115 : decode b_K_fork 115 = .ok (.aaload, 1) := by decide +kernel
theorem d_K_fork_116 : decode b_K_fork 116 = .ok (.astore 7, 2) := by decide +kernel
theorem d_K_fork_118 : decode b_K_fork 118 = .ok (.aload 7, 2) := by decide +kernel
theorem d_K_fork_120 : decode b_K_fork 120 = .ok (.ifnull 24, 3) := by decide +kernel
theorem d_K_fork_123 : decode b_K_fork 123 = .ok (.aload 7, 2) := by decide +kernel
theorem d_K_fork_125 : decode b_K_fork 125 = .ok (.dup, 1) := by decide +kernel
theorem d_K_fork_126 : decode b_K_fork 126 = .ok (.getfield 171, 3) := by decide +kernel
theorem d_K_fork_129 : decode b_K_fork 129 = .ok (.iconst 1, 1) := by decide +kernel
theorem d_K_fork_130 : decode b_K_fork 130 = .ok (.iadd, 1) := by decide +kernel
theorem d_K_fork_131 : decode b_K_fork 131 = .ok (.putfield 171, 3) := by decide +kernel
theorem d_K_fork_134 : decode b_K_fork 134 = .ok (.aload 5, 2) := by decide +kernel
theorem d_K_fork_136 : decode b_K_fork 136 = .ok (.getfield 53, 3) := by decide +kernel
theorem d_K_fork_139 : decode b_K_fork 139 = .ok (.iload 6, 2) := by decide +kernel
theorem d_K_fork_141 : decode b_K_fork 141 = .ok (.aload 7, 2) := by decide +kernel
theorem d_K_fork_143 : decode b_K_fork 143 = .ok (.aastore, 1) := by decide +kernel
theorem d_K_fork_144 : decode b_K_fork 144 = .ok (.iinc 6 1, 3) := by decide +kernel
theorem d_K_fork_147 : decode b_K_fork 147 = .ok (.goto (-45), 3) := by decide +kernel
theorem d_K_fork_150 : decode b_K_fork 150 = .ok (.return_, 1) := by decide +kernel
theorem d_K_sleep_0 : decode b_K_sleep 0 = .ok (.iload_n 2, 1) := by decide +kernel
theorem d_K_sleep_1 : decode b_K_sleep 1 = .ok (.iconst 1, 1) := by decide +kernel
theorem d_K_sleep_2 : decode b_K_sleep 2 = .ok (.if_icmp .lt 13, 3) := by decide +kernel
theorem d_K_sleep_5 : decode b_K_sleep 5 = .ok (.aload_n 1, 1) := by decide +kernel
theorem d_K_sleep_6 : decode b_K_sleep 6 = .ok (.iconst 2, 1) := by decide +kernel
theorem d_K_sleep_7 : decode b_K_sleep 7 = .ok (.putfield 85, 3) := by decide +kernel
theorem d_K_sleep_10 : decode b_K_sleep 10 = .ok (.aload_n 1, 1) := by decide +kernel
theorem d_K_sleep_11 : decode b_K_sleep 11 = .ok (.iload_n 2, 1) := by decide +kernel
theorem d_K_sleep_12 : decode b_K_sleep 12 = .ok (.putfield 133, 3) := by decide +kernel
theorem d_K_sleep_15 : decode b_K_sleep 15 = .ok (.return_, 1) := by decide +kernel
theorem d_K_awaitChild_0 : decode b_K_awaitChild 0 = .ok (.aload_n 0, 1) := by decide +kernel
theorem d_K_awaitChild_1 : decode b_K_awaitChild 1 = .ok (.getfield 11, 3) := by decide +kernel
theorem d_K_awaitChild_4 : decode b_K_awaitChild 4 = .ok (.iload_n 1, 1) := by decide +kernel
theorem d_K_awaitChild_5 : decode b_K_awaitChild 5 = .ok (.aaload, 1) := by decide +kernel
theorem d_K_awaitChild_6 : decode b_K_awaitChild 6 = .ok (.astore_n 3, 1) := by decide +kernel
theorem d_K_awaitChild_7 : decode b_K_awaitChild 7 = .ok (.iconst 0, 1) := by decide +kernel
theorem d_K_awaitChild_8 : decode b_K_awaitChild 8 = .ok (.istore 4, 2) := by decide +kernel
theorem d_K_awaitChild_10 : decode b_K_awaitChild 10 = .ok (.iconst 0, 1) := by decide +kernel
theorem d_K_awaitChild_11 : decode b_K_awaitChild 11 = .ok (.istore 5, 2) := by decide +kernel
theorem d_K_awaitChild_13 : decode b_K_awaitChild 13 = .ok (.iload 5, 2) := by decide +kernel
theorem d_K_awaitChild_15 : decode b_K_awaitChild 15 = .ok (.iconst 4, 1) := by decide +kernel
theorem d_K_awaitChild_16 : decode b_K_awaitChild 16 = .ok (.if_icmp .ge 56, 3) := by decide +kernel
theorem d_K_awaitChild_19 : decode b_K_awaitChild 19 = .ok (.aload_n 0, 1) := by decide +kernel
theorem d_K_awaitChild_20 : decode b_K_awaitChild 20 = .ok (.getfield 11, 3) := by decide +kernel
theorem d_K_awaitChild_23 : decode b_K_awaitChild 23 = .ok (.iload 5, 2) := by decide +kernel
theorem d_K_awaitChild_25 : decode b_K_awaitChild 25 = .ok (.aaload, 1) := by decide +kernel
theorem d_K_awaitChild_26 : decode b_K_awaitChild 26 = .ok (.astore 6, 2) := by decide +kernel
theorem d_K_awaitChild_28 : decode b_K_awaitChild 28 = .ok (.aload 6, 2) := by decide +kernel
theorem d_K_awaitChild_30 : decode b_K_awaitChild 30 = .ok (.getfield 174, 3) := by decide +kernel
theorem d_K_awaitChild_33 : decode b_K_awaitChild 33 = .ok (.iload_n 1, 1) := by decide +kernel
theorem d_K_awaitChild_34 : decode b_K_awaitChild 34 = .ok (.if_icmp .ne 32, 3) := by decide +kernel
theorem d_K_awaitChild_37 : decode b_K_awaitChild 37 = .ok (.aload 6, 2) := by decide +kernel
theorem d_K_awaitChild_39 : decode b_K_awaitChild 39 = .ok (.getfield 85, 3) := by decide +kernel
theorem d_K_awaitChild_42 : decode b_K_awaitChild 42 = .ok (.iconst 4, 1) := by decide +kernel
theorem d_K_awaitChild_43 : decode b_K_awaitChild 43 = .ok (.if_icmp .ne 20, 3) := by decide +kernel
theorem d_K_awaitChild_46 : decode b_K_awaitChild 46 = .ok (.aload_n 3, 1) := by decide +kernel
theorem d_K_awaitChild_47 : decode b_K_awaitChild 47 = .ok (.getfield 88, 3) := by decide +kernel
theorem d_K_awaitChild_50 : decode b_K_awaitChild 50 = .ok (.iload_n 2, 1) := by decide +kernel
theorem d_K_awaitChild_51 : decode b_K_awaitChild 51 = .ok (.aload 6, 2) := by decide +kernel
theorem d_K_awaitChild_53 : decode b_K_awaitChild 53 = .ok (.getfield 177, 3) := by decide +kernel
theorem d_K_awaitChild_56 : decode b_K_awaitChild 56 = .ok (.iastore, 1) := by decide +kernel
theorem d_K_awaitChild_57 : decode b_K_awaitChild 57 = .ok (.aload 6, 2) := by decide +kernel
theorem d_K_awaitChild_59 : decode b_K_awaitChild 59 = .ok (.invokevirtual 180, 3) := by decide +kernel
theorem d_K_awaitChild_62 : decode b_K_awaitChild 62 = .ok (.return_, 1) := by decide +kernel
theorem d_K_awaitChild_63 : decode b_K_awaitChild 63 = .ok (.iconst 1, 1) := by decide +kernel
theorem d_K_awaitChild_64 : decode b_K_awaitChild 64 = .ok (.istore 4, 2) := by decide +kernel
theorem d_K_awaitChild_66 : decode b_K_awaitChild 66 = .ok (.iinc 5 1, 3) := by decide +kernel
theorem d_K_awaitChild_69 : decode b_K_awaitChild 69 = .ok (.goto (-56), 3) := by decide +kernel
theorem d_K_awaitChild_72 : decode b_K_awaitChild 72 = .ok (.iload 4, 2) := by decide +kernel
theorem d_K_awaitChild_74 : decode b_K_awaitChild 74 = .ok (.ifCond .eq 21, 3) := by decide +kernel
theorem d_K_awaitChild_77 : decode b_K_awaitChild 77 = .ok (.aload_n 3, 1) := by decide +kernel
theorem d_K_awaitChild_78 : decode b_K_awaitChild 78 = .ok (.iconst 3, 1) := by decide +kernel
theorem d_K_awaitChild_79 : decode b_K_awaitChild 79 = .ok (.putfield 85, 3) := by decide +kernel
theorem d_K_awaitChild_82 : decode b_K_awaitChild 82 = .ok (.aload_n 3, 1) := by decide +kernel
theorem d_K_awaitChild_83 : decode b_K_awaitChild 83 = .ok (.dup, 1) := by decide +kernel
theorem d_K_awaitChild_84 : decode b_K_awaitChild 84 = .ok (.getfield 143, 3) := by decide +kernel
theorem d_K_awaitChild_87 : decode b_K_awaitChild 87 = .ok (.iconst 1, 1) := by decide +kernel
theorem d_K_awaitChild_88 : decode b_K_awaitChild 88 = .ok (.isub, 1) := by decide +kernel
theorem d_K_awaitChild_89 : decode b_K_awaitChild 89 = .ok (.putfield 143, 3) := by decide +kernel
theorem d_K_awaitChild_92 : decode b_K_awaitChild 92 = .ok (.goto 11, 3) := by decide +kernel
theorem d_K_awaitChild_95 : decode b_K_awaitChild 95 = .ok (.aload_n 3, 1) := by decide +kernel
theorem d_K_awaitChild_96 : decode b_K_awaitChild 96 = .ok (.getfield 88, 3) := by decide +kernel
theorem d_K_awaitChild_99 : decode b_K_awaitChild 99 = .ok (.iload_n 2, 1) := by decide +kernel
theorem d_K_awaitChild_100 : decode b_K_awaitChild 100 = .ok (.bipush (-2), 2) := by decide +kernel
theorem d_K_awaitChild_102 : decode b_K_awaitChild 102 = .ok (.iastore, 1) := by decide +kernel
theorem d_K_awaitChild_103 : decode b_K_awaitChild 103 = .ok (.return_, 1) := by decide +kernel
theorem d_K_process_0 : decode b_K_process 0 = .ok (.iload_n 2, 1) := by decide +kernel
theorem d_K_process_1 : decode b_K_process 1 = .ok (.bipush 10, 2) := by decide +kernel
theorem d_K_process_3 : decode b_K_process 3 = .ok (.if_icmp .lt 13, 3) := by decide +kernel
theorem d_K_process_6 : decode b_K_process 6 = .ok (.iload_n 2, 1) := by decide +kernel
theorem d_K_process_7 : decode b_K_process 7 = .ok (.bipush 14, 2) := by decide +kernel
theorem d_K_process_9 : decode b_K_process 9 = .ok (.if_icmp .ge 7, 3) := by decide +kernel
theorem d_K_process_12 : decode b_K_process 12 = .ok (.iconst 1, 1) := by decide +kernel
theorem d_K_process_13 : decode b_K_process 13 = .ok (.goto 4, 3) := by decide +kernel
theorem d_K_process_16 : decode b_K_process 16 = .ok (.iconst 0, 1) := by decide +kernel
theorem d_K_process_17 : decode b_K_process 17 = .ok (.istore_n 3, 1) := by decide +kernel
theorem d_K_process_18 : decode b_K_process 18 = .ok (.iload_n 1, 1) := by decide +kernel
theorem d_K_process_19 : decode b_K_process 19 = .ok (.invokestatic 82, 3) := by decide +kernel
theorem d_K_process_22 : decode b_K_process 22 = .ok (.ifCond .eq 17, 3) := by decide +kernel
theorem d_K_process_25 : decode b_K_process 25 = .ok (.iload_n 2, 1) := by decide +kernel
theorem d_K_process_26 : decode b_K_process 26 = .ok (.ifCond .lt 13, 3) := by decide +kernel
theorem d_K_process_29 : decode b_K_process 29 = .ok (.iload_n 2, 1) := by decide +kernel
theorem d_K_process_30 : decode b_K_process 30 = .ok (.bipush 6, 2) := by decide +kernel
theorem d_K_process_32 : decode b_K_process 32 = .ok (.if_icmp .le 9, 3) := by decide +kernel
theorem d_K_process_35 : decode b_K_process 35 = .ok (.iload_n 3, 1) := by decide +kernel
theorem d_K_process_36 : decode b_K_process 36 = .ok (.ifCond .ne 5, 3) := by decide +kernel
theorem d_K_process_39 : decode b_K_process 39 = .ok (.iconst (-1), 1) := by decide +kernel
theorem d_K_process_40 : decode b_K_process 40 = .ok (.ireturn, 1) := by decide +kernel
theorem d_K_process_41 : decode b_K_process 41 = .ok (.aload_n 0, 1) := by decide +kernel
theorem d_K_process_42 : decode b_K_process 42 = .ok (.getfield 11, 3) := by decide +kernel
theorem d_K_process_45 : decode b_K_process 45 = .ok (.iload_n 1, 1) := by decide +kernel
theorem d_K_process_46 : decode b_K_process 46 = .ok (.aaload, 1) := by decide +kernel
theorem d_K_process_47 : decode b_K_process 47 = .ok (.astore 4, 2) := by decide +kernel
theorem d_K_process_49 : decode b_K_process 49 = .ok (.aload 4, 2) := by decide +kernel
theorem d_K_process_51 : decode b_K_process 51 = .ok (.getfield 85, 3) := by decide +kernel
theorem d_K_process_54 : decode b_K_process 54 = .ok (.ifCond .ne 5, 3) := by decide +kernel
theorem d_K_process_57 : decode b_K_process 57 = .ok (.iconst 0, 1) := by decide +kernel
theorem d_K_process_58 : decode b_K_process 58 = .ok (.ireturn, 1) := by decide +kernel
theorem d_K_process_59 : decode b_K_process 59 = .ok (.iload_n 3, 1) := by decide +kernel
theorem d_K_process_60 : decode b_K_process 60 = .ok (.ifCond .eq 16, 3) := by decide +kernel
theorem d_K_process_63 : decode b_K_process 63 = .ok (.aload 4, 2) := by decide +kernel
theorem d_K_process_65 : decode b_K_process 65 = .ok (.getfield 88, 3) := by decide +kernel
theorem d_K_process_68 : decode b_K_process 68 = .ok (.iload_n 2, 1) := by decide +kernel
theorem d_K_process_69 : decode b_K_process 69 = .ok (.bipush 10, 2) := by decide +kernel
theorem d_K_process_71 : decode b_K_process 71 = .ok (.isub, 1) := by decide +kernel
theorem d_K_process_72 : decode b_K_process 72 = .ok (.iaload, 1) := by decide +kernel
theorem d_K_process_73 : decode b_K_process 73 = .ok (.goto 9, 3) := by decide +kernel
theorem d_K_process_76 : decode b_K_process 76 = .ok (.aload 4, 2) := by decide +kernel
theorem d_K_process_78 : decode b_K_process 78 = .ok (.iload_n 2, 1) := by decide +kernel
theorem d_K_process_79 : decode b_K_process 79 = .ok (.invokevirtual 91, 3) := by decide +kernel
theorem d_K_process_82 : decode b_K_process 82 = .ok (.ireturn, 1) := by decide +kernel
theorem d_T_tell_0 : decode b_T_tell 0 = .ok (.iload_n 1, 1) := by decide +kernel
theorem d_T_tell_1 : decode b_T_tell 1 = .ok (.tableswitch 81 0 5 #[39, 44, 49, 54, 59, 76], 39) := by decide +kernel
theorem d_T_tell_40 : decode b_T_tell 40 = .ok (.aload_n 0, 1) := by decide +kernel
theorem d_T_tell_41 : decode b_T_tell 41 = .ok (.getfield 21, 3) := by decide +kernel
theorem d_T_tell_44 : decode b_T_tell 44 = .ok (.ireturn, 1) := by decide +kernel
theorem d_T_tell_45 : decode b_T_tell 45 = .ok (.aload_n 0, 1) := by decide +kernel
theorem d_T_tell_46 : decode b_T_tell 46 = .ok (.getfield 34, 3) := by decide +kernel
theorem d_T_tell_49 : decode b_T_tell 49 = .ok (.ireturn, 1) := by decide +kernel
theorem d_T_tell_50 : decode b_T_tell 50 = .ok (.aload_n 0, 1) := by decide +kernel
theorem d_T_tell_51 : decode b_T_tell 51 = .ok (.getfield 25, 3) := by decide +kernel
theorem d_T_tell_54 : decode b_T_tell 54 = .ok (.ireturn, 1) := by decide +kernel
theorem d_T_tell_55 : decode b_T_tell 55 = .ok (.aload_n 0, 1) := by decide +kernel
theorem d_T_tell_56 : decode b_T_tell 56 = .ok (.getfield 37, 3) := by decide +kernel
theorem d_T_tell_59 : decode b_T_tell 59 = .ok (.ireturn, 1) := by decide +kernel
theorem d_T_tell_60 : decode b_T_tell 60 = .ok (.aload_n 0, 1) := by decide +kernel
theorem d_T_tell_61 : decode b_T_tell 61 = .ok (.getfield 21, 3) := by decide +kernel
theorem d_T_tell_64 : decode b_T_tell 64 = .ok (.iconst 2, 1) := by decide +kernel
theorem d_T_tell_65 : decode b_T_tell 65 = .ok (.if_icmp .ne 10, 3) := by decide +kernel
theorem d_T_tell_68 : decode b_T_tell 68 = .ok (.aload_n 0, 1) := by decide +kernel
theorem d_T_tell_69 : decode b_T_tell 69 = .ok (.getfield 40, 3) := by decide +kernel
theorem d_T_tell_72 : decode b_T_tell 72 = .ok (.goto 4, 3) := by decide +kernel
theorem d_T_tell_75 : decode b_T_tell 75 = .ok (.iconst 0, 1) := by decide +kernel
theorem d_T_tell_76 : decode b_T_tell 76 = .ok (.ireturn, 1) := by decide +kernel
theorem d_T_tell_77 : decode b_T_tell 77 = .ok (.aload_n 0, 1) := by decide +kernel
theorem d_T_tell_78 : decode b_T_tell 78 = .ok (.getfield 43, 3) := by decide +kernel
theorem d_T_tell_81 : decode b_T_tell 81 = .ok (.ireturn, 1) := by decide +kernel
theorem d_T_tell_82 : decode b_T_tell 82 = .ok (.aload_n 0, 1) := by decide +kernel
theorem d_T_tell_83 : decode b_T_tell 83 = .ok (.getfield 46, 3) := by decide +kernel
theorem d_T_tell_86 : decode b_T_tell 86 = .ok (.ireturn, 1) := by decide +kernel
theorem d_K_page_0 : decode b_K_page 0 = .ok (.aload_n 0, 1) := by decide +kernel
theorem d_K_page_1 : decode b_K_page 1 = .ok (.iload_n 1, 1) := by decide +kernel
theorem d_K_page_2 : decode b_K_page 2 = .ok (.invokevirtual 95, 3) := by decide +kernel
theorem d_K_page_5 : decode b_K_page 5 = .ok (.ifCond .eq 22, 3) := by decide +kernel
theorem d_K_page_8 : decode b_K_page 8 = .ok (.iload_n 2, 1) := by decide +kernel
theorem d_K_page_9 : decode b_K_page 9 = .ok (.ifCond .lt 18, 3) := by decide +kernel
theorem d_K_page_12 : decode b_K_page 12 = .ok (.iload_n 2, 1) := by decide +kernel
theorem d_K_page_13 : decode b_K_page 13 = .ok (.bipush 8, 2) := by decide +kernel
theorem d_K_page_15 : decode b_K_page 15 = .ok (.if_icmp .ge 12, 3) := by decide +kernel
theorem d_K_page_18 : decode b_K_page 18 = .ok (.iload_n 3, 1) := by decide +kernel
theorem d_K_page_19 : decode b_K_page 19 = .ok (.ifCond .lt 8, 3) := by decide +kernel
theorem d_K_page_22 : decode b_K_page 22 = .ok (.iload_n 3, 1) := by decide +kernel
theorem d_K_page_23 : decode b_K_page 23 = .ok (.iconst 5, 1) := by decide +kernel
theorem d_K_page_24 : decode b_K_page 24 = .ok (.if_icmp .le 5, 3) := by decide +kernel
theorem d_K_page_27 : decode b_K_page 27 = .ok (.iconst (-1), 1) := by decide +kernel
theorem d_K_page_28 : decode b_K_page 28 = .ok (.ireturn, 1) := by decide +kernel
theorem d_K_page_29 : decode b_K_page 29 = .ok (.aload_n 0, 1) := by decide +kernel
theorem d_K_page_30 : decode b_K_page 30 = .ok (.getfield 11, 3) := by decide +kernel
theorem d_K_page_33 : decode b_K_page 33 = .ok (.iload_n 1, 1) := by decide +kernel
theorem d_K_page_34 : decode b_K_page 34 = .ok (.aaload, 1) := by decide +kernel
theorem d_K_page_35 : decode b_K_page 35 = .ok (.getfield 53, 3) := by decide +kernel
theorem d_K_page_38 : decode b_K_page 38 = .ok (.iload_n 2, 1) := by decide +kernel
theorem d_K_page_39 : decode b_K_page 39 = .ok (.aaload, 1) := by decide +kernel
theorem d_K_page_40 : decode b_K_page 40 = .ok (.astore 4, 2) := by decide +kernel
theorem d_K_page_42 : decode b_K_page 42 = .ok (.aload 4, 2) := by decide +kernel
theorem d_K_page_44 : decode b_K_page 44 = .ok (.ifnonnull 20, 3) := by decide +kernel
theorem d_K_page_47 : decode b_K_page 47 = .ok (.iload_n 3, 1) := by decide +kernel
theorem d_K_page_48 : decode b_K_page 48 = .ok (.iconst 1, 1) := by decide +kernel
theorem d_K_page_49 : decode b_K_page 49 = .ok (.if_icmp .eq 8, 3) := by decide +kernel
theorem d_K_page_52 : decode b_K_page 52 = .ok (.iload_n 3, 1) := by decide +kernel
theorem d_K_page_53 : decode b_K_page 53 = .ok (.iconst 2, 1) := by decide +kernel
theorem d_K_page_54 : decode b_K_page 54 = .ok (.if_icmp .ne 8, 3) := by decide +kernel
theorem d_K_page_57 : decode b_K_page 57 = .ok (.bipush (-2), 2) := by decide +kernel
theorem d_K_page_59 : decode b_K_page 59 = .ok (.goto 4, 3) := by decide +kernel
theorem d_K_page_62 : decode b_K_page 62 = .ok (.iconst 0, 1) := by decide +kernel
theorem d_K_page_63 : decode b_K_page 63 = .ok (.ireturn, 1) := by decide +kernel
theorem d_K_page_64 : decode b_K_page 64 = .ok (.aload 4, 2) := by decide +kernel
theorem d_K_page_66 : decode b_K_page 66 = .ok (.iload_n 3, 1) := by decide +kernel
theorem d_K_page_67 : decode b_K_page 67 = .ok (.invokevirtual 98, 3) := by decide +kernel
theorem d_K_page_70 : decode b_K_page 70 = .ok (.ireturn, 1) := by decide +kernel
theorem d_E_tell_0 : decode b_E_tell 0 = .ok (.iload_n 1, 1) := by decide +kernel
theorem d_E_tell_1 : decode b_E_tell 1 = .ok (.tableswitch 86 0 4 #[35, 50, 55, 60, 73], 35) := by decide +kernel
theorem d_E_tell_36 : decode b_E_tell 36 = .ok (.aload_n 0, 1) := by decide +kernel
theorem d_E_tell_37 : decode b_E_tell 37 = .ok (.getfield 15, 3) := by decide +kernel
theorem d_E_tell_40 : decode b_E_tell 40 = .ok (.bipush (-2), 2) := by decide +kernel
theorem d_E_tell_42 : decode b_E_tell 42 = .ok (.if_icmp .ne 7, 3) := by decide +kernel
theorem d_E_tell_45 : decode b_E_tell 45 = .ok (.iconst 2, 1) := by decide +kernel
theorem d_E_tell_46 : decode b_E_tell 46 = .ok (.goto 4, 3) := by decide +kernel
theorem d_E_tell_49 : decode b_E_tell 49 = .ok (.iconst 1, 1) := by decide +kernel
theorem d_E_tell_50 : decode b_E_tell 50 = .ok (.ireturn, 1) := by decide +kernel
theorem d_E_tell_51 : decode b_E_tell 51 = .ok (.aload_n 0, 1) := by decide +kernel
theorem d_E_tell_52 : decode b_E_tell 52 = .ok (.getfield 15, 3) := by decide +kernel
theorem d_E_tell_55 : decode b_E_tell 55 = .ok (.ireturn, 1) := by decide +kernel
theorem d_E_tell_56 : decode b_E_tell 56 = .ok (.aload_n 0, 1) := by decide +kernel
theorem d_E_tell_57 : decode b_E_tell 57 = .ok (.getfield 19, 3) := by decide +kernel
theorem d_E_tell_60 : decode b_E_tell 60 = .ok (.ireturn, 1) := by decide +kernel
theorem d_E_tell_61 : decode b_E_tell 61 = .ok (.aload_n 0, 1) := by decide +kernel
theorem d_E_tell_62 : decode b_E_tell 62 = .ok (.getfield 22, 3) := by decide +kernel
theorem d_E_tell_65 : decode b_E_tell 65 = .ok (.ifCond .eq 7, 3) := by decide +kernel
theorem d_E_tell_68 : decode b_E_tell 68 = .ok (.iconst 1, 1) := by decide +kernel
theorem d_E_tell_69 : decode b_E_tell 69 = .ok (.goto 4, 3) := by decide +kernel
theorem d_E_tell_72 : decode b_E_tell 72 = .ok (.iconst 0, 1) := by decide +kernel
theorem d_E_tell_73 : decode b_E_tell 73 = .ok (.ireturn, 1) := by decide +kernel
theorem d_E_tell_74 : decode b_E_tell 74 = .ok (.aload_n 0, 1) := by decide +kernel
theorem d_E_tell_75 : decode b_E_tell 75 = .ok (.getfield 26, 3) := by decide +kernel
theorem d_E_tell_78 : decode b_E_tell 78 = .ok (.ifCond .eq 7, 3) := by decide +kernel
theorem d_E_tell_81 : decode b_E_tell 81 = .ok (.iconst 1, 1) := by decide +kernel
theorem d_E_tell_82 : decode b_E_tell 82 = .ok (.goto 4, 3) := by decide +kernel
theorem d_E_tell_85 : decode b_E_tell 85 = .ok (.iconst 0, 1) := by decide +kernel
theorem d_E_tell_86 : decode b_E_tell 86 = .ok (.ireturn, 1) := by decide +kernel
theorem d_E_tell_87 : decode b_E_tell 87 = .ok (.aload_n 0, 1) := by decide +kernel
theorem d_E_tell_88 : decode b_E_tell 88 = .ok (.getfield 29, 3) := by decide +kernel
theorem d_E_tell_91 : decode b_E_tell 91 = .ok (.ireturn, 1) := by decide +kernel
theorem d_K_printed_0 : decode b_K_printed 0 = .ok (.iload_n 1, 1) := by decide +kernel
theorem d_K_printed_1 : decode b_K_printed 1 = .ok (.ifCond .lt 26, 3) := by decide +kernel
theorem d_K_printed_4 : decode b_K_printed 4 = .ok (.iload_n 1, 1) := by decide +kernel
theorem d_K_printed_5 : decode b_K_printed 5 = .ok (.bipush 40, 2) := by decide +kernel
theorem d_K_printed_7 : decode b_K_printed 7 = .ok (.if_icmp .ge 20, 3) := by decide +kernel
theorem d_K_printed_10 : decode b_K_printed 10 = .ok (.iload_n 1, 1) := by decide +kernel
theorem d_K_printed_11 : decode b_K_printed 11 = .ok (.aload_n 0, 1) := by decide +kernel
theorem d_K_printed_12 : decode b_K_printed 12 = .ok (.getfield 99, 3) := by decide +kernel
theorem d_K_printed_15 : decode b_K_printed 15 = .ok (.if_icmp .ge 12, 3) := by decide +kernel
theorem d_K_printed_18 : decode b_K_printed 18 = .ok (.aload_n 0, 1) := by decide +kernel
theorem d_K_printed_19 : decode b_K_printed 19 = .ok (.getfield 22, 3) := by decide +kernel
theorem d_K_printed_22 : decode b_K_printed 22 = .ok (.iload_n 1, 1) := by decide +kernel
theorem d_K_printed_23 : decode b_K_printed 23 = .ok (.iaload, 1) := by decide +kernel
theorem d_K_printed_24 : decode b_K_printed 24 = .ok (.goto 4, 3) := by decide +kernel
theorem d_K_printed_27 : decode b_K_printed 27 = .ok (.iconst 0, 1) := by decide +kernel
theorem d_K_printed_28 : decode b_K_printed 28 = .ok (.ireturn, 1) := by decide +kernel
theorem d_K_count_0 : decode b_K_count 0 = .ok (.iload_n 1, 1) := by decide +kernel
theorem d_K_count_1 : decode b_K_count 1 = .ok (.tableswitch 168 0 13 #[71, 76, 81, 86, 91, 102, 113, 121, 129, 137, 145, 153, 158, 163], 71) := by decide +kernel
theorem d_K_count_72 : decode b_K_count 72 = .ok (.aload_n 0, 1) := by decide +kernel
theorem d_K_count_73 : decode b_K_count 73 = .ok (.getfield 66, 3) := by decide +kernel
theorem d_K_count_76 : decode b_K_count 76 = .ok (.ireturn, 1) := by decide +kernel
theorem d_K_count_77 : decode b_K_count 77 = .ok (.aload_n 0, 1) := by decide +kernel
theorem d_K_count_78 : decode b_K_count 78 = .ok (.invokevirtual 102, 3) := by decide +kernel
theorem d_K_count_81 : decode b_K_count 81 = .ok (.ireturn, 1) := by decide +kernel
theorem d_K_count_82 : decode b_K_count 82 = .ok (.aload_n 0, 1) := by decide +kernel
theorem d_K_count_83 : decode b_K_count 83 = .ok (.getfield 26, 3) := by decide +kernel
theorem d_K_count_86 : decode b_K_count 86 = .ok (.ireturn, 1) := by decide +kernel
theorem d_K_count_87 : decode b_K_count 87 = .ok (.aload_n 0, 1) := by decide +kernel
theorem d_K_count_88 : decode b_K_count 88 = .ok (.getfield 105, 3) := by decide +kernel
theorem d_K_count_91 : decode b_K_count 91 = .ok (.ireturn, 1) := by decide +kernel
theorem d_K_count_92 : decode b_K_count 92 = .ok (.aload_n 0, 1) := by decide +kernel
theorem d_K_count_93 : decode b_K_count 93 = .ok (.getfield 18, 3) := by decide +kernel
theorem d_K_count_96 : decode b_K_count 96 = .ok (.getfield 108, 3) := by decide +kernel
theorem d_K_count_99 : decode b_K_count 99 = .ok (.invokestatic 111, 3) := by decide +kernel
theorem d_K_count_102 : decode b_K_count 102 = .ok (.ireturn, 1) := by decide +kernel
theorem d_K_count_103 : decode b_K_count 103 = .ok (.aload_n 0, 1) := by decide +kernel
theorem d_K_count_104 : decode b_K_count 104 = .ok (.getfield 18, 3) := by decide +kernel
theorem d_K_count_107 : decode b_K_count 107 = .ok (.getfield 115, 3) := by decide +kernel
theorem d_K_count_110 : decode b_K_count 110 = .ok (.invokestatic 111, 3) := by decide +kernel
theorem d_K_count_113 : decode b_K_count 113 = .ok (.ireturn, 1) := by decide +kernel
theorem d_K_count_114 : decode b_K_count 114 = .ok (.aload_n 0, 1) := by decide +kernel
theorem d_K_count_115 : decode b_K_count 115 = .ok (.getfield 18, 3) := by decide +kernel
theorem d_K_count_118 : decode b_K_count 118 = .ok (.getfield 118, 3) := by decide +kernel
theorem d_K_count_121 : decode b_K_count 121 = .ok (.ireturn, 1) := by decide +kernel
theorem d_K_count_122 : decode b_K_count 122 = .ok (.aload_n 0, 1) := by decide +kernel
theorem d_K_count_123 : decode b_K_count 123 = .ok (.getfield 18, 3) := by decide +kernel
theorem d_K_count_126 : decode b_K_count 126 = .ok (.getfield 46, 3) := by decide +kernel
theorem d_K_count_129 : decode b_K_count 129 = .ok (.ireturn, 1) := by decide +kernel
theorem d_K_count_130 : decode b_K_count 130 = .ok (.aload_n 0, 1) := by decide +kernel
theorem d_K_count_131 : decode b_K_count 131 = .ok (.getfield 18, 3) := by decide +kernel
theorem d_K_count_134 : decode b_K_count 134 = .ok (.getfield 121, 3) := by decide +kernel
theorem d_K_count_137 : decode b_K_count 137 = .ok (.ireturn, 1) := by decide +kernel
theorem d_K_count_138 : decode b_K_count 138 = .ok (.aload_n 0, 1) := by decide +kernel
theorem d_K_count_139 : decode b_K_count 139 = .ok (.getfield 18, 3) := by decide +kernel
theorem d_K_count_142 : decode b_K_count 142 = .ok (.getfield 124, 3) := by decide +kernel
theorem d_K_count_145 : decode b_K_count 145 = .ok (.ireturn, 1) := by decide +kernel
theorem d_K_count_146 : decode b_K_count 146 = .ok (.aload_n 0, 1) := by decide +kernel
theorem d_K_count_147 : decode b_K_count 147 = .ok (.getfield 18, 3) := by decide +kernel
theorem d_K_count_150 : decode b_K_count 150 = .ok (.getfield 127, 3) := by decide +kernel
theorem d_K_count_153 : decode b_K_count 153 = .ok (.ireturn, 1) := by decide +kernel
theorem d_K_count_154 : decode b_K_count 154 = .ok (.aload_n 0, 1) := by decide +kernel
theorem d_K_count_155 : decode b_K_count 155 = .ok (.getfield 79, 3) := by decide +kernel
theorem d_K_count_158 : decode b_K_count 158 = .ok (.ireturn, 1) := by decide +kernel
theorem d_K_count_159 : decode b_K_count 159 = .ok (.aload_n 0, 1) := by decide +kernel
theorem d_K_count_160 : decode b_K_count 160 = .ok (.getfield 99, 3) := by decide +kernel
theorem d_K_count_163 : decode b_K_count 163 = .ok (.ireturn, 1) := by decide +kernel
theorem d_K_count_164 : decode b_K_count 164 = .ok (.aload_n 0, 1) := by decide +kernel
theorem d_K_count_165 : decode b_K_count 165 = .ok (.getfield 130, 3) := by decide +kernel
theorem d_K_count_168 : decode b_K_count 168 = .ok (.ireturn, 1) := by decide +kernel
theorem d_K_count_169 : decode b_K_count 169 = .ok (.iconst (-1), 1) := by decide +kernel
theorem d_K_count_170 : decode b_K_count 170 = .ok (.ireturn, 1) := by decide +kernel
theorem d_K_presentTasks_0 : decode b_K_presentTasks 0 = .ok (.iconst 0, 1) := by decide +kernel
theorem d_K_presentTasks_1 : decode b_K_presentTasks 1 = .ok (.istore_n 1, 1) := by decide +kernel
theorem d_K_presentTasks_2 : decode b_K_presentTasks 2 = .ok (.iconst 0, 1) := by decide +kernel
theorem d_K_presentTasks_3 : decode b_K_presentTasks 3 = .ok (.istore_n 2, 1) := by decide +kernel
theorem d_K_presentTasks_4 : decode b_K_presentTasks 4 = .ok (.iload_n 2, 1) := by decide +kernel
theorem d_K_presentTasks_5 : decode b_K_presentTasks 5 = .ok (.iconst 4, 1) := by decide +kernel
theorem d_K_presentTasks_6 : decode b_K_presentTasks 6 = .ok (.if_icmp .ge 24, 3) := by decide +kernel
theorem d_K_presentTasks_9 : decode b_K_presentTasks 9 = .ok (.aload_n 0, 1) := by decide +kernel
theorem d_K_presentTasks_10 : decode b_K_presentTasks 10 = .ok (.getfield 11, 3) := by decide +kernel
theorem d_K_presentTasks_13 : decode b_K_presentTasks 13 = .ok (.iload_n 2, 1) := by decide +kernel
theorem d_K_presentTasks_14 : decode b_K_presentTasks 14 = .ok (.aaload, 1) := by decide +kernel
theorem d_K_presentTasks_15 : decode b_K_presentTasks 15 = .ok (.getfield 85, 3) := by decide +kernel
theorem d_K_presentTasks_18 : decode b_K_presentTasks 18 = .ok (.ifCond .eq 6, 3) := by decide +kernel
theorem d_K_presentTasks_21 : decode b_K_presentTasks 21 = .ok (.iinc 1 1, 3) := by decide +kernel
theorem d_K_presentTasks_24 : decode b_K_presentTasks 24 = .ok (.iinc 2 1, 3) := by decide +kernel
theorem d_K_presentTasks_27 : decode b_K_presentTasks 27 = .ok (.goto (-23), 3) := by decide +kernel
theorem d_K_presentTasks_30 : decode b_K_presentTasks 30 = .ok (.iload_n 1, 1) := by decide +kernel
theorem d_K_presentTasks_31 : decode b_K_presentTasks 31 = .ok (.ireturn, 1) := by decide +kernel
theorem d_M_taken_0 : decode b_M_taken 0 = .ok (.iconst 0, 1) := by decide +kernel
theorem d_M_taken_1 : decode b_M_taken 1 = .ok (.istore_n 1, 1) := by decide +kernel
theorem d_M_taken_2 : decode b_M_taken 2 = .ok (.iconst 0, 1) := by decide +kernel
theorem d_M_taken_3 : decode b_M_taken 3 = .ok (.istore_n 2, 1) := by decide +kernel
theorem d_M_taken_4 : decode b_M_taken 4 = .ok (.iload_n 2, 1) := by decide +kernel
theorem d_M_taken_5 : decode b_M_taken 5 = .ok (.aload_n 0, 1) := by decide +kernel
theorem d_M_taken_6 : decode b_M_taken 6 = .ok (.arraylength, 1) := by decide +kernel
theorem d_M_taken_7 : decode b_M_taken 7 = .ok (.if_icmp .ge 18, 3) := by decide +kernel
theorem d_M_taken_10 : decode b_M_taken 10 = .ok (.aload_n 0, 1) := by decide +kernel
theorem d_M_taken_11 : decode b_M_taken 11 = .ok (.iload_n 2, 1) := by decide +kernel
theorem d_M_taken_12 : decode b_M_taken 12 = .ok (.aaload, 1) := by decide +kernel
theorem d_M_taken_13 : decode b_M_taken 13 = .ok (.ifnull 6, 3) := by decide +kernel
theorem d_M_taken_16 : decode b_M_taken 16 = .ok (.iinc 1 1, 3) := by decide +kernel
theorem d_M_taken_19 : decode b_M_taken 19 = .ok (.iinc 2 1, 3) := by decide +kernel
theorem d_M_taken_22 : decode b_M_taken 22 = .ok (.goto (-18), 3) := by decide +kernel
theorem d_M_taken_25 : decode b_M_taken 25 = .ok (.iload_n 1, 1) := by decide +kernel
theorem d_M_taken_26 : decode b_M_taken 26 = .ok (.ireturn, 1) := by decide +kernel
theorem d_Q_init_0 : decode b_Q_init 0 = .ok (.aload_n 0, 1) := by decide +kernel
theorem d_Q_init_1 : decode b_Q_init 1 = .ok (.invokespecial 1, 3) := by decide +kernel
theorem d_Q_init_4 : decode b_Q_init 4 = .ok (.aload_n 0, 1) := by decide +kernel
theorem d_Q_init_5 : decode b_Q_init 5 = .ok (.iconst 4, 1) := by decide +kernel
theorem d_Q_init_6 : decode b_Q_init 6 = .ok (.newarray .int, 2) := by decide +kernel
theorem d_Q_init_8 : decode b_Q_init 8 = .ok (.putfield 7, 3) := by decide +kernel
theorem d_Q_init_11 : decode b_Q_init 11 = .ok (.aload_n 0, 1) := by decide +kernel
theorem d_Q_init_12 : decode b_Q_init 12 = .ok (.iconst 4, 1) := by decide +kernel
theorem d_Q_init_13 : decode b_Q_init 13 = .ok (.newarray .int, 2) := by decide +kernel
theorem d_Q_init_15 : decode b_Q_init 15 = .ok (.putfield 13, 3) := by decide +kernel
theorem d_Q_init_18 : decode b_Q_init 18 = .ok (.aload_n 0, 1) := by decide +kernel
theorem d_Q_init_19 : decode b_Q_init 19 = .ok (.iconst 4, 1) := by decide +kernel
theorem d_Q_init_20 : decode b_Q_init 20 = .ok (.newarray .int, 2) := by decide +kernel
theorem d_Q_init_22 : decode b_Q_init 22 = .ok (.putfield 16, 3) := by decide +kernel
theorem d_Q_init_25 : decode b_Q_init 25 = .ok (.aload_n 0, 1) := by decide +kernel
theorem d_Q_init_26 : decode b_Q_init 26 = .ok (.iconst 4, 1) := by decide +kernel
theorem d_Q_init_27 : decode b_Q_init 27 = .ok (.newarray .int, 2) := by decide +kernel
theorem d_Q_init_29 : decode b_Q_init 29 = .ok (.putfield 19, 3) := by decide +kernel
theorem d_Q_init_32 : decode b_Q_init 32 = .ok (.aload_n 0, 1) := by decide +kernel
theorem d_Q_init_33 : decode b_Q_init 33 = .ok (.iconst 4, 1) := by decide +kernel
theorem d_Q_init_34 : decode b_Q_init 34 = .ok (.newarray .int, 2) := by decide +kernel
theorem d_Q_init_36 : decode b_Q_init 36 = .ok (.putfield 22, 3) := by decide +kernel
theorem d_Q_init_39 : decode b_Q_init 39 = .ok (.aload_n 0, 1) := by decide +kernel
theorem d_Q_init_40 : decode b_Q_init 40 = .ok (.iconst 4, 1) := by decide +kernel
theorem d_Q_init_41 : decode b_Q_init 41 = .ok (.newarray .int, 2) := by decide +kernel
theorem d_Q_init_43 : decode b_Q_init 43 = .ok (.putfield 25, 3) := by decide +kernel
theorem d_Q_init_46 : decode b_Q_init 46 = .ok (.aload_n 0, 1) := by decide +kernel
theorem d_Q_init_47 : decode b_Q_init 47 = .ok (.iconst 4, 1) := by decide +kernel
theorem d_Q_init_48 : decode b_Q_init 48 = .ok (.newarray .int, 2) := by decide +kernel
theorem d_Q_init_50 : decode b_Q_init 50 = .ok (.putfield 28, 3) := by decide +kernel
theorem d_Q_init_53 : decode b_Q_init 53 = .ok (.aload_n 0, 1) := by decide +kernel
theorem d_Q_init_54 : decode b_Q_init 54 = .ok (.bipush 16, 2) := by decide +kernel
theorem d_Q_init_56 : decode b_Q_init 56 = .ok (.newarray .int, 2) := by decide +kernel
theorem d_Q_init_58 : decode b_Q_init 58 = .ok (.putfield 31, 3) := by decide +kernel
theorem d_Q_init_61 : decode b_Q_init 61 = .ok (.aload_n 0, 1) := by decide +kernel
theorem d_Q_init_62 : decode b_Q_init 62 = .ok (.bipush 32, 2) := by decide +kernel
theorem d_Q_init_64 : decode b_Q_init 64 = .ok (.newarray .int, 2) := by decide +kernel
theorem d_Q_init_66 : decode b_Q_init 66 = .ok (.putfield 34, 3) := by decide +kernel
theorem d_Q_init_69 : decode b_Q_init 69 = .ok (.aload_n 0, 1) := by decide +kernel
theorem d_Q_init_70 : decode b_Q_init 70 = .ok (.bipush 34, 2) := by decide +kernel
theorem d_Q_init_72 : decode b_Q_init 72 = .ok (.newarray .boolean, 2) := by decide +kernel
theorem d_Q_init_74 : decode b_Q_init 74 = .ok (.putfield 37, 3) := by decide +kernel
theorem d_Q_init_77 : decode b_Q_init 77 = .ok (.aload_n 0, 1) := by decide +kernel
theorem d_Q_init_78 : decode b_Q_init 78 = .ok (.bipush 34, 2) := by decide +kernel
theorem d_Q_init_80 : decode b_Q_init 80 = .ok (.newarray .boolean, 2) := by decide +kernel
theorem d_Q_init_82 : decode b_Q_init 82 = .ok (.putfield 41, 3) := by decide +kernel
theorem d_Q_init_85 : decode b_Q_init 85 = .ok (.aload_n 0, 1) := by decide +kernel
theorem d_Q_init_86 : decode b_Q_init 86 = .ok (.bipush 34, 2) := by decide +kernel
theorem d_Q_init_88 : decode b_Q_init 88 = .ok (.newarray .boolean, 2) := by decide +kernel
theorem d_Q_init_90 : decode b_Q_init 90 = .ok (.putfield 44, 3) := by decide +kernel
theorem d_Q_init_93 : decode b_Q_init 93 = .ok (.aload_n 0, 1) := by decide +kernel
theorem d_Q_init_94 : decode b_Q_init 94 = .ok (.bipush 34, 2) := by decide +kernel
theorem d_Q_init_96 : decode b_Q_init 96 = .ok (.newarray .int, 2) := by decide +kernel
theorem d_Q_init_98 : decode b_Q_init 98 = .ok (.putfield 47, 3) := by decide +kernel
theorem d_Q_init_101 : decode b_Q_init 101 = .ok (.aload_n 0, 1) := by decide +kernel
theorem d_Q_init_102 : decode b_Q_init 102 = .ok (.bipush 34, 2) := by decide +kernel
theorem d_Q_init_104 : decode b_Q_init 104 = .ok (.newarray .int, 2) := by decide +kernel
theorem d_Q_init_106 : decode b_Q_init 106 = .ok (.putfield 50, 3) := by decide +kernel
theorem d_Q_init_109 : decode b_Q_init 109 = .ok (.aload_n 0, 1) := by decide +kernel
theorem d_Q_init_110 : decode b_Q_init 110 = .ok (.sipush 272, 3) := by decide +kernel
theorem d_Q_init_113 : decode b_Q_init 113 = .ok (.newarray .int, 2) := by decide +kernel
theorem d_Q_init_115 : decode b_Q_init 115 = .ok (.putfield 53, 3) := by decide +kernel
theorem d_Q_init_118 : decode b_Q_init 118 = .ok (.aload_n 0, 1) := by decide +kernel
theorem d_Q_init_119 : decode b_Q_init 119 = .ok (.bipush 40, 2) := by decide +kernel
theorem d_Q_init_121 : decode b_Q_init 121 = .ok (.newarray .int, 2) := by decide +kernel
theorem d_Q_init_123 : decode b_Q_init 123 = .ok (.putfield 56, 3) := by decide +kernel
theorem d_Q_init_126 : decode b_Q_init 126 = .ok (.aload_n 0, 1) := by decide +kernel
theorem d_Q_init_127 : decode b_Q_init 127 = .ok (.bipush 14, 2) := by decide +kernel
theorem d_Q_init_129 : decode b_Q_init 129 = .ok (.newarray .int, 2) := by decide +kernel
theorem d_Q_init_131 : decode b_Q_init 131 = .ok (.putfield 59, 3) := by decide +kernel
theorem d_Q_init_134 : decode b_Q_init 134 = .ok (.aload_n 0, 1) := by decide +kernel
theorem d_Q_init_135 : decode b_Q_init 135 = .ok (.iconst 3, 1) := by decide +kernel
theorem d_Q_init_136 : decode b_Q_init 136 = .ok (.putfield 62, 3) := by decide +kernel
theorem d_Q_init_139 : decode b_Q_init 139 = .ok (.iconst 0, 1) := by decide +kernel
theorem d_Q_init_140 : decode b_Q_init 140 = .ok (.istore_n 1, 1) := by decide +kernel
theorem d_Q_init_141 : decode b_Q_init 141 = .ok (.iload_n 1, 1) := by decide +kernel
theorem d_Q_init_142 : decode b_Q_init 142 = .ok (.bipush 32, 2) := by decide +kernel
theorem d_Q_init_144 : decode b_Q_init 144 = .ok (.if_icmp .ge 16, 3) := by decide +kernel
theorem d_Q_init_147 : decode b_Q_init 147 = .ok (.aload_n 0, 1) := by decide +kernel
theorem d_Q_init_148 : decode b_Q_init 148 = .ok (.getfield 34, 3) := by decide +kernel
theorem d_Q_init_151 : decode b_Q_init 151 = .ok (.iload_n 1, 1) := by decide +kernel
theorem d_Q_init_152 : decode b_Q_init 152 = .ok (.iconst (-1), 1) := by decide +kernel
theorem d_Q_init_153 : decode b_Q_init 153 = .ok (.iastore, 1) := by decide +kernel
theorem d_Q_init_154 : decode b_Q_init 154 = .ok (.iinc 1 1, 3) := by decide +kernel
theorem d_Q_init_157 : decode b_Q_init 157 = .ok (.goto (-16), 3) := by decide +kernel
theorem d_Q_init_160 : decode b_Q_init 160 = .ok (.return_, 1) := by decide +kernel
