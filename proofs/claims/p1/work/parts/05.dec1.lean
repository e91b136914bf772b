theorem d_K_peek_0 : decode b_K_peek 0 = .ok (.aload_n 0, 1) := by decide +kernel
theorem d_K_peek_1 : decode b_K_peek 1 = .ok (.iload_n 1, 1) := by decide +kernel
theorem d_K_peek_2 : decode b_K_peek 2 = .ok (.invokevirtual 39, 3) := by decide +kernel
theorem d_K_peek_5 : decode b_K_peek 5 = .ok (.ifCond .eq 10, 3) := by decide +kernel
theorem d_K_peek_8 : decode b_K_peek 8 = .ok (.iload_n 2, 1) := by decide +kernel
theorem d_K_peek_9 : decode b_K_peek 9 = .ok (.invokestatic 43, 3) := by decide +kernel
theorem d_K_peek_12 : decode b_K_peek 12 = .ok (.ifCond .ne 5, 3) := by decide +kernel
theorem d_K_peek_15 : decode b_K_peek 15 = .ok (.iconst (-1), 1) := by decide +kernel
theorem d_K_peek_16 : decode b_K_peek 16 = .ok (.ireturn, 1) := by decide +kernel
theorem d_K_peek_17 : decode b_K_peek 17 = .ok (.aload_n 0, 1) := by decide +kernel
theorem d_K_peek_18 : decode b_K_peek 18 = .ok (.getfield 11, 3) := by decide +kernel
theorem d_K_peek_21 : decode b_K_peek 21 = .ok (.iload_n 1, 1) := by decide +kernel
theorem d_K_peek_22 : decode b_K_peek 22 = .ok (.aaload, 1) := by decide +kernel
theorem d_K_peek_23 : decode b_K_peek 23 = .ok (.getfield 53, 3) := by decide +kernel
theorem d_K_peek_26 : decode b_K_peek 26 = .ok (.iload_n 2, 1) := by decide +kernel
theorem d_K_peek_27 : decode b_K_peek 27 = .ok (.bipush 8, 2) := by decide +kernel
theorem d_K_peek_29 : decode b_K_peek 29 = .ok (.idiv, 1) := by decide +kernel
theorem d_K_peek_30 : decode b_K_peek 30 = .ok (.aaload, 1) := by decide +kernel
theorem d_K_peek_31 : decode b_K_peek 31 = .ok (.astore_n 3, 1) := by decide +kernel
theorem d_K_peek_32 : decode b_K_peek 32 = .ok (.aload_n 3, 1) := by decide +kernel
theorem d_K_peek_33 : decode b_K_peek 33 = .ok (.ifnonnull 7, 3) := by decide +kernel
theorem d_K_peek_36 : decode b_K_peek 36 = .ok (.iconst 0, 1) := by decide +kernel
theorem d_K_peek_37 : decode b_K_peek 37 = .ok (.goto 12, 3) := by decide +kernel
theorem d_K_peek_40 : decode b_K_peek 40 = .ok (.aload_n 3, 1) := by decide +kernel
theorem d_K_peek_41 : decode b_K_peek 41 = .ok (.getfield 57, 3) := by decide +kernel
theorem d_K_peek_44 : decode b_K_peek 44 = .ok (.iload_n 2, 1) := by decide +kernel
theorem d_K_peek_45 : decode b_K_peek 45 = .ok (.bipush 8, 2) := by decide +kernel
theorem d_K_peek_47 : decode b_K_peek 47 = .ok (.irem, 1) := by decide +kernel
theorem d_K_peek_48 : decode b_K_peek 48 = .ok (.iaload, 1) := by decide +kernel
theorem d_K_peek_49 : decode b_K_peek 49 = .ok (.ireturn, 1) := by decide +kernel
theorem d_K_kill_0 : decode b_K_kill 0 = .ok (.aload_n 0, 1) := by decide +kernel
theorem d_K_kill_1 : decode b_K_kill 1 = .ok (.iload_n 1, 1) := by decide +kernel
theorem d_K_kill_2 : decode b_K_kill 2 = .ok (.invokevirtual 39, 3) := by decide +kernel
theorem d_K_kill_5 : decode b_K_kill 5 = .ok (.ifCond .ne 5, 3) := by decide +kernel
theorem d_K_kill_8 : decode b_K_kill 8 = .ok (.iconst 0, 1) := by decide +kernel
theorem d_K_kill_9 : decode b_K_kill 9 = .ok (.ireturn, 1) := by decide +kernel
theorem d_K_kill_10 : decode b_K_kill 10 = .ok (.aload_n 0, 1) := by decide +kernel
theorem d_K_kill_11 : decode b_K_kill 11 = .ok (.iload_n 1, 1) := by decide +kernel
theorem d_K_kill_12 : decode b_K_kill 12 = .ok (.bipush (-9), 2) := by decide +kernel
theorem d_K_kill_14 : decode b_K_kill 14 = .ok (.invokevirtual 62, 3) := by decide +kernel
theorem d_K_kill_17 : decode b_K_kill 17 = .ok (.iconst 1, 1) := by decide +kernel
theorem d_K_kill_18 : decode b_K_kill 18 = .ok (.ireturn, 1) := by decide +kernel
theorem d_K_end_0 : decode b_K_end 0 = .ok (.aload_n 0, 1) := by decide +kernel
theorem d_K_end_1 : decode b_K_end 1 = .ok (.getfield 11, 3) := by decide +kernel
theorem d_K_end_4 : decode b_K_end 4 = .ok (.iload_n 1, 1) := by decide +kernel
theorem d_K_end_5 : decode b_K_end 5 = .ok (.aaload, 1) := by decide +kernel
theorem d_K_end_6 : decode b_K_end 6 = .ok (.astore_n 3, 1) := by decide +kernel
theorem d_K_end_7 : decode b_K_end 7 = .ok (.aload_n 0, 1) := by decide +kernel
theorem d_K_end_8 : decode b_K_end 8 = .ok (.getfield 18, 3) := by decide +kernel
theorem d_K_end_11 : decode b_K_end 11 = .ok (.aload_n 3, 1) := by decide +kernel
theorem d_K_end_12 : decode b_K_end 12 = .ok (.invokevirtual 183, 3) := by decide +kernel
theorem d_K_end_15 : decode b_K_end 15 = .ok (.aload_n 0, 1) := by decide +kernel
theorem d_K_end_16 : decode b_K_end 16 = .ok (.iload_n 1, 1) := by decide +kernel
theorem d_K_end_17 : decode b_K_end 17 = .ok (.invokevirtual 187, 3) := by decide +kernel
theorem d_K_end_20 : decode b_K_end 20 = .ok (.aload_n 3, 1) := by decide +kernel
theorem d_K_end_21 : decode b_K_end 21 = .ok (.getfield 174, 3) := by decide +kernel
theorem d_K_end_24 : decode b_K_end 24 = .ok (.bipush (-2), 2) := by decide +kernel
theorem d_K_end_26 : decode b_K_end 26 = .ok (.if_icmp .ne 8, 3) := by decide +kernel
theorem d_K_end_29 : decode b_K_end 29 = .ok (.aload_n 3, 1) := by decide +kernel
theorem d_K_end_30 : decode b_K_end 30 = .ok (.invokevirtual 180, 3) := by decide +kernel
theorem d_K_end_33 : decode b_K_end 33 = .ok (.return_, 1) := by decide +kernel
theorem d_K_end_34 : decode b_K_end 34 = .ok (.aload_n 3, 1) := by decide +kernel
theorem d_K_end_35 : decode b_K_end 35 = .ok (.iconst 4, 1) := by decide +kernel
theorem d_K_end_36 : decode b_K_end 36 = .ok (.putfield 85, 3) := by decide +kernel
theorem d_K_end_39 : decode b_K_end 39 = .ok (.aload_n 3, 1) := by decide +kernel
theorem d_K_end_40 : decode b_K_end 40 = .ok (.iload_n 2, 1) := by decide +kernel
theorem d_K_end_41 : decode b_K_end 41 = .ok (.putfield 177, 3) := by decide +kernel
theorem d_K_end_44 : decode b_K_end 44 = .ok (.aload_n 0, 1) := by decide +kernel
theorem d_K_end_45 : decode b_K_end 45 = .ok (.getfield 11, 3) := by decide +kernel
theorem d_K_end_48 : decode b_K_end 48 = .ok (.aload_n 3, 1) := by decide +kernel
theorem d_K_end_49 : decode b_K_end 49 = .ok (.getfield 174, 3) := by decide +kernel
theorem d_K_end_52 : decode b_K_end 52 = .ok (.aaload, 1) := by decide +kernel
theorem d_K_end_53 : decode b_K_end 53 = .ok (.astore 4, 2) := by decide +kernel
theorem d_K_end_55 : decode b_K_end 55 = .ok (.aload 4, 2) := by decide +kernel
theorem d_K_end_57 : decode b_K_end 57 = .ok (.getfield 85, 3) := by decide +kernel
theorem d_K_end_60 : decode b_K_end 60 = .ok (.iconst 3, 1) := by decide +kernel
theorem d_K_end_61 : decode b_K_end 61 = .ok (.if_icmp .ne 9, 3) := by decide +kernel
theorem d_K_end_64 : decode b_K_end 64 = .ok (.aload 4, 2) := by decide +kernel
theorem d_K_end_66 : decode b_K_end 66 = .ok (.iconst 1, 1) := by decide +kernel
theorem d_K_end_67 : decode b_K_end 67 = .ok (.putfield 85, 3) := by decide +kernel
theorem d_K_end_70 : decode b_K_end 70 = .ok (.return_, 1) := by decide +kernel
theorem d_M_releaseAll_0 : decode b_M_releaseAll 0 = .ok (.iconst 0, 1) := by decide +kernel
theorem d_M_releaseAll_1 : decode b_M_releaseAll 1 = .ok (.istore_n 2, 1) := by decide +kernel
theorem d_M_releaseAll_2 : decode b_M_releaseAll 2 = .ok (.iload_n 2, 1) := by decide +kernel
theorem d_M_releaseAll_3 : decode b_M_releaseAll 3 = .ok (.bipush 8, 2) := by decide +kernel
theorem d_M_releaseAll_5 : decode b_M_releaseAll 5 = .ok (.if_icmp .ge 32, 3) := by decide +kernel
theorem d_M_releaseAll_8 : decode b_M_releaseAll 8 = .ok (.aload_n 1, 1) := by decide +kernel
theorem d_M_releaseAll_9 : decode b_M_releaseAll 9 = .ok (.getfield 32, 3) := by decide +kernel
theorem d_M_releaseAll_12 : decode b_M_releaseAll 12 = .ok (.iload_n 2, 1) := by decide +kernel
theorem d_M_releaseAll_13 : decode b_M_releaseAll 13 = .ok (.aaload, 1) := by decide +kernel
theorem d_M_releaseAll_14 : decode b_M_releaseAll 14 = .ok (.astore_n 3, 1) := by decide +kernel
theorem d_M_releaseAll_15 : decode b_M_releaseAll 15 = .ok (.aload_n 3, 1) := by decide +kernel
theorem d_M_releaseAll_16 : decode b_M_releaseAll 16 = .ok (.ifnull 15, 3) := by decide +kernel
theorem d_M_releaseAll_19 : decode b_M_releaseAll 19 = .ok (.aload_n 1, 1) := by decide +kernel
theorem d_M_releaseAll_20 : decode b_M_releaseAll 20 = .ok (.getfield 32, 3) := by decide +kernel
theorem d_M_releaseAll_23 : decode b_M_releaseAll 23 = .ok (.iload_n 2, 1) := by decide +kernel
theorem d_M_releaseAll_24 : decode b_M_releaseAll 24 = .ok (.aconst_null, 1) := by decide +kernel
theorem d_M_releaseAll_25 : decode b_M_releaseAll 25 = .ok (.aastore, 1) := by decide +kernel
theorem d_M_releaseAll_26 : decode b_M_releaseAll 26 = .ok (.aload_n 0, 1) := by decide +kernel
theorem d_M_releaseAll_27 : decode b_M_releaseAll 27 = .ok (.aload_n 3, 1) := by decide +kernel
theorem d_M_releaseAll_28 : decode b_M_releaseAll 28 = .ok (.invokevirtual 104, 3) := by decide +kernel
theorem d_M_releaseAll_31 : decode b_M_releaseAll 31 = .ok (.iinc 2 1, 3) := by decide +kernel
theorem d_M_releaseAll_34 : decode b_M_releaseAll 34 = .ok (.goto (-32), 3) := by decide +kernel
theorem d_M_releaseAll_37 : decode b_M_releaseAll 37 = .ok (.return_, 1) := by decide +kernel
theorem d_M_release_0 : decode b_M_release 0 = .ok (.aload_n 1, 1) := by decide +kernel
theorem d_M_release_1 : decode b_M_release 1 = .ok (.dup, 1) := by decide +kernel
theorem d_M_release_2 : decode b_M_release 2 = .ok (.getfield 59, 3) := by decide +kernel
theorem d_M_release_5 : decode b_M_release 5 = .ok (.iconst 1, 1) := by decide +kernel
theorem d_M_release_6 : decode b_M_release 6 = .ok (.isub, 1) := by decide +kernel
theorem d_M_release_7 : decode b_M_release 7 = .ok (.putfield 59, 3) := by decide +kernel
theorem d_M_release_10 : decode b_M_release 10 = .ok (.aload_n 1, 1) := by decide +kernel
theorem d_M_release_11 : decode b_M_release 11 = .ok (.getfield 59, 3) := by decide +kernel
theorem d_M_release_14 : decode b_M_release 14 = .ok (.ifCond .le 4, 3) := by decide +kernel
theorem d_M_release_17 : decode b_M_release 17 = .ok (.return_, 1) := by decide +kernel
theorem d_M_release_18 : decode b_M_release 18 = .ok (.aload_n 1, 1) := by decide +kernel
theorem d_M_release_19 : decode b_M_release 19 = .ok (.getfield 41, 3) := by decide +kernel
theorem d_M_release_22 : decode b_M_release 22 = .ok (.bipush (-2), 2) := by decide +kernel
theorem d_M_release_24 : decode b_M_release 24 = .ok (.if_icmp .eq 19, 3) := by decide +kernel
theorem d_M_release_27 : decode b_M_release 27 = .ok (.aload_n 0, 1) := by decide +kernel
theorem d_M_release_28 : decode b_M_release 28 = .ok (.getfield 17, 3) := by decide +kernel
theorem d_M_release_31 : decode b_M_release 31 = .ok (.aload_n 1, 1) := by decide +kernel
theorem d_M_release_32 : decode b_M_release 32 = .ok (.getfield 41, 3) := by decide +kernel
theorem d_M_release_35 : decode b_M_release 35 = .ok (.aconst_null, 1) := by decide +kernel
theorem d_M_release_36 : decode b_M_release 36 = .ok (.aastore, 1) := by decide +kernel
theorem d_M_release_37 : decode b_M_release 37 = .ok (.aload_n 1, 1) := by decide +kernel
theorem d_M_release_38 : decode b_M_release 38 = .ok (.bipush (-2), 2) := by decide +kernel
theorem d_M_release_40 : decode b_M_release 40 = .ok (.putfield 41, 3) := by decide +kernel
theorem d_M_release_43 : decode b_M_release 43 = .ok (.aload_n 1, 1) := by decide +kernel
theorem d_M_release_44 : decode b_M_release 44 = .ok (.getfield 49, 3) := by decide +kernel
theorem d_M_release_47 : decode b_M_release 47 = .ok (.bipush (-2), 2) := by decide +kernel
theorem d_M_release_49 : decode b_M_release 49 = .ok (.if_icmp .eq 19, 3) := by decide +kernel
theorem d_M_release_52 : decode b_M_release 52 = .ok (.aload_n 0, 1) := by decide +kernel
theorem d_M_release_53 : decode b_M_release 53 = .ok (.getfield 20, 3) := by decide +kernel
theorem d_M_release_56 : decode b_M_release 56 = .ok (.aload_n 1, 1) := by decide +kernel
theorem d_M_release_57 : decode b_M_release 57 = .ok (.getfield 49, 3) := by decide +kernel
theorem d_M_release_60 : decode b_M_release 60 = .ok (.aconst_null, 1) := by decide +kernel
theorem d_M_release_61 : decode b_M_release 61 = .ok (.aastore, 1) := by decide +kernel
theorem d_M_release_62 : decode b_M_release 62 = .ok (.aload_n 1, 1) := by decide +kernel
theorem d_M_release_63 : decode b_M_release 63 = .ok (.bipush (-2), 2) := by decide +kernel
theorem d_M_release_65 : decode b_M_release 65 = .ok (.putfield 49, 3) := by decide +kernel
theorem d_M_release_68 : decode b_M_release 68 = .ok (.aload_n 1, 1) := by decide +kernel
theorem d_M_release_69 : decode b_M_release 69 = .ok (.iconst 0, 1) := by decide +kernel
theorem d_M_release_70 : decode b_M_release 70 = .ok (.putfield 66, 3) := by decide +kernel
theorem d_M_release_73 : decode b_M_release 73 = .ok (.aload_n 1, 1) := by decide +kernel
theorem d_M_release_74 : decode b_M_release 74 = .ok (.iconst 0, 1) := by decide +kernel
theorem d_M_release_75 : decode b_M_release 75 = .ok (.putfield 70, 3) := by decide +kernel
theorem d_M_release_78 : decode b_M_release 78 = .ok (.return_, 1) := by decide +kernel
theorem d_K_orphanChildren_0 : decode b_K_orphanChildren 0 = .ok (.iconst 0, 1) := by decide +kernel
theorem d_K_orphanChildren_1 : decode b_K_orphanChildren 1 = .ok (.istore_n 2, 1) := by decide +kernel
theorem d_K_orphanChildren_2 : decode b_K_orphanChildren 2 = .ok (.iload_n 2, 1) := by decide +kernel
theorem d_K_orphanChildren_3 : decode b_K_orphanChildren 3 = .ok (.iconst 4, 1) := by decide +kernel
theorem d_K_orphanChildren_4 : decode b_K_orphanChildren 4 = .ok (.if_icmp .ge 42, 3) := by decide +kernel
theorem d_K_orphanChildren_7 : decode b_K_orphanChildren 7 = .ok (.aload_n 0, 1) := by decide +kernel
theorem d_K_orphanChildren_8 : decode b_K_orphanChildren 8 = .ok (.getfield 11, 3) := by decide +kernel
theorem d_K_orphanChildren_11 : decode b_K_orphanChildren 11 = .ok (.iload_n 2, 1) := by decide +kernel
theorem d_K_orphanChildren_12 : decode b_K_orphanChildren 12 = .ok (.aaload, 1) := by decide +kernel
theorem d_K_orphanChildren_13 : decode b_K_orphanChildren 13 = .ok (.astore_n 3, 1) := by decide +kernel
theorem d_K_orphanChildren_14 : decode b_K_orphanChildren 14 = .ok (.aload_n 3, 1) := by decide +kernel
theorem d_K_orphanChildren_15 : decode b_K_orphanChildren 15 = .ok (.getfield 174, 3) := by decide +kernel
theorem d_K_orphanChildren_18 : decode b_K_orphanChildren 18 = .ok (.iload_n 1, 1) := by decide +kernel
theorem d_K_orphanChildren_19 : decode b_K_orphanChildren 19 = .ok (.if_icmp .ne 21, 3) := by decide +kernel
theorem d_K_orphanChildren_22 : decode b_K_orphanChildren 22 = .ok (.aload_n 3, 1) := by decide +kernel
theorem d_K_orphanChildren_23 : decode b_K_orphanChildren 23 = .ok (.bipush (-2), 2) := by decide +kernel
theorem d_K_orphanChildren_25 : decode b_K_orphanChildren 25 = .ok (.putfield 174, 3) := by decide +kernel
theorem d_K_orphanChildren_28 : decode b_K_orphanChildren 28 = .ok (.aload_n 3, 1) := by decide +kernel
theorem d_K_orphanChildren_29 : decode b_K_orphanChildren 29 = .ok (.getfield 85, 3) := by decide +kernel
theorem d_K_orphanChildren_32 : decode b_K_orphanChildren 32 = .ok (.iconst 4, 1) := by decide +kernel
theorem d_K_orphanChildren_33 : decode b_K_orphanChildren 33 = .ok (.if_icmp .ne 7, 3) := by decide +kernel
theorem d_K_orphanChildren_36 : decode b_K_orphanChildren 36 = .ok (.aload_n 3, 1) := by decide +kernel
theorem d_K_orphanChildren_37 : decode b_K_orphanChildren 37 = .ok (.invokevirtual 180, 3) := by decide +kernel
theorem d_K_orphanChildren_40 : decode b_K_orphanChildren 40 = .ok (.iinc 2 1, 3) := by decide +kernel
theorem d_K_orphanChildren_43 : decode b_K_orphanChildren 43 = .ok (.goto (-41), 3) := by decide +kernel
theorem d_K_orphanChildren_46 : decode b_K_orphanChildren 46 = .ok (.return_, 1) := by decide +kernel
theorem d_T_leave_0 : decode b_T_leave 0 = .ok (.aload_n 0, 1) := by decide +kernel
theorem d_T_leave_1 : decode b_T_leave 1 = .ok (.iconst 0, 1) := by decide +kernel
theorem d_T_leave_2 : decode b_T_leave 2 = .ok (.putfield 21, 3) := by decide +kernel
theorem d_T_leave_5 : decode b_T_leave 5 = .ok (.aload_n 0, 1) := by decide +kernel
theorem d_T_leave_6 : decode b_T_leave 6 = .ok (.bipush (-2), 2) := by decide +kernel
theorem d_T_leave_8 : decode b_T_leave 8 = .ok (.putfield 25, 3) := by decide +kernel
theorem d_T_leave_11 : decode b_T_leave 11 = .ok (.return_, 1) := by decide +kernel
theorem d_K_run_0 : decode b_K_run 0 = .ok (.iload_n 1, 1) := by decide +kernel
theorem d_K_run_1 : decode b_K_run 1 = .ok (.iconst 1, 1) := by decide +kernel
theorem d_K_run_2 : decode b_K_run 2 = .ok (.if_icmp .lt 9, 3) := by decide +kernel
theorem d_K_run_5 : decode b_K_run 5 = .ok (.iload_n 1, 1) := by decide +kernel
theorem d_K_run_6 : decode b_K_run 6 = .ok (.bipush 40, 2) := by decide +kernel
theorem d_K_run_8 : decode b_K_run 8 = .ok (.if_icmp .le 5, 3) := by decide +kernel
theorem d_K_run_11 : decode b_K_run 11 = .ok (.iconst (-1), 1) := by decide +kernel
theorem d_K_run_12 : decode b_K_run 12 = .ok (.ireturn, 1) := by decide +kernel
theorem d_K_run_13 : decode b_K_run 13 = .ok (.iconst 0, 1) := by decide +kernel
theorem d_K_run_14 : decode b_K_run 14 = .ok (.istore_n 2, 1) := by decide +kernel
theorem d_K_run_15 : decode b_K_run 15 = .ok (.iconst 0, 1) := by decide +kernel
theorem d_K_run_16 : decode b_K_run 16 = .ok (.istore_n 3, 1) := by decide +kernel
theorem d_K_run_17 : decode b_K_run 17 = .ok (.iload_n 3, 1) := by decide +kernel
theorem d_K_run_18 : decode b_K_run 18 = .ok (.iload_n 1, 1) := by decide +kernel
theorem d_K_run_19 : decode b_K_run 19 = .ok (.if_icmp .ge 54, 3) := by decide +kernel
theorem d_K_run_22 : decode b_K_run 22 = .ok (.aload_n 0, 1) := by decide +kernel
theorem d_K_run_23 : decode b_K_run 23 = .ok (.dup, 1) := by decide +kernel
theorem d_K_run_24 : decode b_K_run 24 = .ok (.getfield 66, 3) := by decide +kernel
theorem d_K_run_27 : decode b_K_run 27 = .ok (.iconst 1, 1) := by decide +kernel
theorem d_K_run_28 : decode b_K_run 28 = .ok (.iadd, 1) := by decide +kernel
theorem d_K_run_29 : decode b_K_run 29 = .ok (.putfield 66, 3) := by decide +kernel
theorem d_K_run_32 : decode b_K_run 32 = .ok (.aload_n 0, 1) := by decide +kernel
theorem d_K_run_33 : decode b_K_run 33 = .ok (.invokevirtual 69, 3) := by decide +kernel
theorem d_K_run_36 : decode b_K_run 36 = .ok (.aload_n 0, 1) := by decide +kernel
theorem d_K_run_37 : decode b_K_run 37 = .ok (.invokevirtual 72, 3) := by decide +kernel
theorem d_K_run_40 : decode b_K_run 40 = .ok (.ifCond .eq 17, 3) := by decide +kernel
theorem d_K_run_43 : decode b_K_run 43 = .ok (.aload_n 0, 1) := by decide +kernel
theorem d_K_run_44 : decode b_K_run 44 = .ok (.aload_n 0, 1) := by decide +kernel
theorem d_K_run_45 : decode b_K_run 45 = .ok (.getfield 26, 3) := by decide +kernel
theorem d_K_run_48 : decode b_K_run 48 = .ok (.invokevirtual 76, 3) := by decide +kernel
theorem d_K_run_51 : decode b_K_run 51 = .ok (.iinc 2 1, 3) := by decide +kernel
theorem d_K_run_54 : decode b_K_run 54 = .ok (.goto 13, 3) := by decide +kernel
theorem d_K_run_57 : decode b_K_run 57 = .ok (.aload_n 0, 1) := by decide +kernel
theorem d_K_run_58 : decode b_K_run 58 = .ok (.dup, 1) := by decide +kernel
theorem d_K_run_59 : decode b_K_run 59 = .ok (.getfield 79, 3) := by decide +kernel
theorem d_K_run_62 : decode b_K_run 62 = .ok (.iconst 1, 1) := by decide +kernel
theorem d_K_run_63 : decode b_K_run 63 = .ok (.iadd, 1) := by decide +kernel
theorem d_K_run_64 : decode b_K_run 64 = .ok (.putfield 79, 3) := by decide +kernel
theorem d_K_run_67 : decode b_K_run 67 = .ok (.iinc 3 1, 3) := by decide +kernel
theorem d_K_run_70 : decode b_K_run 70 = .ok (.goto (-53), 3) := by decide +kernel
theorem d_K_run_73 : decode b_K_run 73 = .ok (.iload_n 2, 1) := by decide +kernel
theorem d_K_run_74 : decode b_K_run 74 = .ok (.ireturn, 1) := by decide +kernel
theorem d_K_wakeSleepers_0 : decode b_K_wakeSleepers 0 = .ok (.iconst 0, 1) := by decide +kernel
theorem d_K_wakeSleepers_1 : decode b_K_wakeSleepers 1 = .ok (.istore_n 1, 1) := by decide +kernel
theorem d_K_wakeSleepers_2 : decode b_K_wakeSleepers 2 = .ok (.iload_n 1, 1) := by decide +kernel
theorem d_K_wakeSleepers_3 : decode b_K_wakeSleepers 3 = .ok (.iconst 4, 1) := by decide +kernel
theorem d_K_wakeSleepers_4 : decode b_K_wakeSleepers 4 = .ok (.if_icmp .ge 46, 3) := by decide +kernel
theorem d_K_wakeSleepers_7 : decode b_K_wakeSleepers 7 = .ok (.aload_n 0, 1) := by decide +kernel
theorem d_K_wakeSleepers_8 : decode b_K_wakeSleepers 8 = .ok (.getfield 11, 3) := by decide +kernel
theorem d_K_wakeSleepers_11 : decode b_K_wakeSleepers 11 = .ok (.iload_n 1, 1) := by decide +kernel
theorem d_K_wakeSleepers_12 : decode b_K_wakeSleepers 12 = .ok (.aaload, 1) := by decide +kernel
theorem d_K_wakeSleepers_13 : decode b_K_wakeSleepers 13 = .ok (.astore_n 2, 1) := by decide +kernel
theorem d_K_wakeSleepers_14 : decode b_K_wakeSleepers 14 = .ok (.aload_n 2, 1) := by decide +kernel
theorem d_K_wakeSleepers_15 : decode b_K_wakeSleepers 15 = .ok (.getfield 85, 3) := by decide +kernel
theorem d_K_wakeSleepers_18 : decode b_K_wakeSleepers 18 = .ok (.iconst 2, 1) := by decide +kernel
theorem d_K_wakeSleepers_19 : decode b_K_wakeSleepers 19 = .ok (.if_icmp .ne 25, 3) := by decide +kernel
theorem d_K_wakeSleepers_22 : decode b_K_wakeSleepers 22 = .ok (.aload_n 2, 1) := by decide +kernel
theorem d_K_wakeSleepers_23 : decode b_K_wakeSleepers 23 = .ok (.dup, 1) := by decide +kernel
theorem d_K_wakeSleepers_24 : decode b_K_wakeSleepers 24 = .ok (.getfield 133, 3) := by decide +kernel
theorem d_K_wakeSleepers_27 : decode b_K_wakeSleepers 27 = .ok (.iconst 1, 1) := by decide +kernel
theorem d_K_wakeSleepers_28 : decode b_K_wakeSleepers 28 = .ok (.isub, 1) := by decide +kernel
theorem d_K_wakeSleepers_29 : decode b_K_wakeSleepers 29 = .ok (.putfield 133, 3) := by decide +kernel
theorem d_K_wakeSleepers_32 : decode b_K_wakeSleepers 32 = .ok (.aload_n 2, 1) := by decide +kernel
theorem d_K_wakeSleepers_33 : decode b_K_wakeSleepers 33 = .ok (.getfield 133, 3) := by decide +kernel
theorem d_K_wakeSleepers_36 : decode b_K_wakeSleepers 36 = .ok (.ifCond .ne 8, 3) := by decide +kernel
theorem d_K_wakeSleepers_39 : decode b_K_wakeSleepers 39 = .ok (.aload_n 2, 1) := by decide +kernel
theorem d_K_wakeSleepers_40 : decode b_K_wakeSleepers 40 = .ok (.iconst 1, 1) := by decide +kernel
theorem d_K_wakeSleepers_41 : decode b_K_wakeSleepers 41 = .ok (.putfield 85, 3) := by decide +kernel
theorem d_K_wakeSleepers_44 : decode b_K_wakeSleepers 44 = .ok (.iinc 1 1, 3) := by decide +kernel
theorem d_K_wakeSleepers_47 : decode b_K_wakeSleepers 47 = .ok (.goto (-45), 3) := by decide +kernel
theorem d_K_wakeSleepers_50 : decode b_K_wakeSleepers 50 = .ok (.return_, 1) := by decide +kernel
theorem d_K_giveTurn_0 : decode b_K_giveTurn 0 = .ok (.aload_n 0, 1) := by decide +kernel
theorem d_K_giveTurn_1 : decode b_K_giveTurn 1 = .ok (.getfield 136, 3) := by decide +kernel
theorem d_K_giveTurn_4 : decode b_K_giveTurn 4 = .ok (.ifCond .ne 11, 3) := by decide +kernel
theorem d_K_giveTurn_7 : decode b_K_giveTurn 7 = .ok (.aload_n 0, 1) := by decide +kernel
theorem d_K_giveTurn_8 : decode b_K_giveTurn 8 = .ok (.getfield 105, 3) := by decide +kernel
theorem d_K_giveTurn_11 : decode b_K_giveTurn 11 = .ok (.iconst 4, 1) := by decide +kernel
theorem d_K_giveTurn_12 : decode b_K_giveTurn 12 = .ok (.if_icmp .lt 7, 3) := by decide +kernel
theorem d_K_giveTurn_15 : decode b_K_giveTurn 15 = .ok (.iconst 1, 1) := by decide +kernel
theorem d_K_giveTurn_16 : decode b_K_giveTurn 16 = .ok (.goto 4, 3) := by decide +kernel
theorem d_K_giveTurn_19 : decode b_K_giveTurn 19 = .ok (.iconst 0, 1) := by decide +kernel
theorem d_K_giveTurn_20 : decode b_K_giveTurn 20 = .ok (.istore_n 1, 1) := by decide +kernel
theorem d_K_giveTurn_21 : decode b_K_giveTurn 21 = .ok (.aload_n 0, 1) := by decide +kernel
theorem d_K_giveTurn_22 : decode b_K_giveTurn 22 = .ok (.getfield 11, 3) := by decide +kernel
theorem d_K_giveTurn_25 : decode b_K_giveTurn 25 = .ok (.aload_n 0, 1) := by decide +kernel
theorem d_K_giveTurn_26 : decode b_K_giveTurn 26 = .ok (.getfield 26, 3) := by decide +kernel
theorem d_K_giveTurn_29 : decode b_K_giveTurn 29 = .ok (.aaload, 1) := by decide +kernel
theorem d_K_giveTurn_30 : decode b_K_giveTurn 30 = .ok (.getfield 85, 3) := by decide +kernel
theorem d_K_giveTurn_33 : decode b_K_giveTurn 33 = .ok (.iconst 1, 1) := by decide +kernel
theorem d_K_giveTurn_34 : decode b_K_giveTurn 34 = .ok (.if_icmp .ne 9, 3) := by decide +kernel
theorem d_K_giveTurn_37 : decode b_K_giveTurn 37 = .ok (.iload_n 1, 1) := by decide +kernel
theorem d_K_giveTurn_38 : decode b_K_giveTurn 38 = .ok (.ifCond .ne 5, 3) := by decide +kernel
theorem d_K_giveTurn_41 : decode b_K_giveTurn 41 = .ok (.iconst 1, 1) := by decide +kernel
theorem d_K_giveTurn_42 : decode b_K_giveTurn 42 = .ok (.ireturn, 1) := by decide +kernel
theorem d_K_giveTurn_43 : decode b_K_giveTurn 43 = .ok (.iconst 1, 1) := by decide +kernel
theorem d_K_giveTurn_44 : decode b_K_giveTurn 44 = .ok (.istore_n 2, 1) := by decide +kernel
theorem d_K_giveTurn_45 : decode b_K_giveTurn 45 = .ok (.iload_n 2, 1) := by decide +kernel
theorem d_K_giveTurn_46 : decode b_K_giveTurn 46 = .ok (.iconst 4, 1) := by decide +kernel
theorem d_K_giveTurn_47 : decode b_K_giveTurn 47 = .ok (.if_icmp .gt 48, 3) := by decide +kernel
theorem d_K_giveTurn_50 : decode b_K_giveTurn 50 = .ok (.aload_n 0, 1) := by decide +kernel
theorem d_K_giveTurn_51 : decode b_K_giveTurn 51 = .ok (.getfield 26, 3) := by decide +kernel
theorem d_K_giveTurn_54 : decode b_K_giveTurn 54 = .ok (.iload_n 2, 1) := by decide +kernel
theorem d_K_giveTurn_55 : decode b_K_giveTurn 55 = .ok (.iadd, 1) := by decide +kernel
theorem d_K_giveTurn_56 : decode b_K_giveTurn 56 = .ok (.iconst 4, 1) := by decide +kernel
theorem d_K_giveTurn_57 : decode b_K_giveTurn 57 = .ok (.irem, 1) := by decide +kernel
theorem d_K_giveTurn_58 : decode b_K_giveTurn 58 = .ok (.istore_n 3, 1) := by decide +kernel
theorem d_K_giveTurn_59 : decode b_K_giveTurn 59 = .ok (.aload_n 0, 1) := by decide +kernel
theorem d_K_giveTurn_60 : decode b_K_giveTurn 60 = .ok (.getfield 11, 3) := by decide +kernel
theorem d_K_giveTurn_63 : decode b_K_giveTurn 63 = .ok (.iload_n 3, 1) := by decide +kernel
theorem d_K_giveTurn_64 : decode b_K_giveTurn 64 = .ok (.aaload, 1) := by decide +kernel
theorem d_K_giveTurn_65 : decode b_K_giveTurn 65 = .ok (.getfield 85, 3) := by decide +kernel
theorem d_K_giveTurn_68 : decode b_K_giveTurn 68 = .ok (.iconst 1, 1) := by decide +kernel
theorem d_K_giveTurn_69 : decode b_K_giveTurn 69 = .ok (.if_icmp .ne 20, 3) := by decide +kernel
theorem d_K_giveTurn_72 : decode b_K_giveTurn 72 = .ok (.aload_n 0, 1) := by decide +kernel
theorem d_K_giveTurn_73 : decode b_K_giveTurn 73 = .ok (.iload_n 3, 1) := by decide +kernel
theorem d_K_giveTurn_74 : decode b_K_giveTurn 74 = .ok (.putfield 26, 3) := by decide +kernel
theorem d_K_giveTurn_77 : decode b_K_giveTurn 77 = .ok (.aload_n 0, 1) := by decide +kernel
theorem d_K_giveTurn_78 : decode b_K_giveTurn 78 = .ok (.iconst 0, 1) := by decide +kernel
theorem d_K_giveTurn_79 : decode b_K_giveTurn 79 = .ok (.putfield 105, 3) := by decide +kernel
theorem d_K_giveTurn_82 : decode b_K_giveTurn 82 = .ok (.aload_n 0, 1) := by decide +kernel
theorem d_K_giveTurn_83 : decode b_K_giveTurn 83 = .ok (.iconst 0, 1) := by decide +kernel
theorem d_K_giveTurn_84 : decode b_K_giveTurn 84 = .ok (.putfield 136, 3) := by decide +kernel
theorem d_K_giveTurn_87 : decode b_K_giveTurn 87 = .ok (.iconst 1, 1) := by decide +kernel
theorem d_K_giveTurn_88 : decode b_K_giveTurn 88 = .ok (.ireturn, 1) := by decide +kernel
theorem d_K_giveTurn_89 : decode b_K_giveTurn 89 = .ok (.iinc 2 1, 3) := by decide +kernel
theorem d_K_giveTurn_92 : decode b_K_giveTurn 92 = .ok (.goto (-47), 3) := by decide +kernel
theorem d_K_giveTurn_95 : decode b_K_giveTurn 95 = .ok (.iconst 0, 1) := by decide +kernel
theorem d_K_giveTurn_96 : decode b_K_giveTurn 96 = .ok (.ireturn, 1) := by decide +kernel
theorem d_K_doInstruction_0 : decode b_K_doInstruction 0 = .ok (.aload_n 0, 1) := by decide +kernel
theorem d_K_doInstruction_1 : decode b_K_doInstruction 1 = .ok (.getfield 11, 3) := by decide +kernel
theorem d_K_doInstruction_4 : decode b_K_doInstruction 4 = .ok (.iload_n 1, 1) := by decide +kernel
theorem d_K_doInstruction_5 : decode b_K_doInstruction 5 = .ok (.aaload, 1) := by decide +kernel
theorem d_K_doInstruction_6 : decode b_K_doInstruction 6 = .ok (.astore_n 2, 1) := by decide +kernel
theorem d_K_doInstruction_7 : decode b_K_doInstruction 7 = .ok (.aload_n 2, 1) := by decide +kernel
theorem d_K_doInstruction_8 : decode b_K_doInstruction 8 = .ok (.dup, 1) := by decide +kernel
theorem d_K_doInstruction_9 : decode b_K_doInstruction 9 = .ok (.getfield 140, 3) := by decide +kernel
theorem d_K_doInstruction_12 : decode b_K_doInstruction 12 = .ok (.iconst 1, 1) := by decide +kernel
theorem d_K_doInstruction_13 : decode b_K_doInstruction 13 = .ok (.iadd, 1) := by decide +kernel
theorem d_K_doInstruction_14 : decode b_K_doInstruction 14 = .ok (.putfield 140, 3) := by decide +kernel
theorem d_K_doInstruction_17 : decode b_K_doInstruction 17 = .ok (.aload_n 0, 1) := by decide +kernel
theorem d_K_doInstruction_18 : decode b_K_doInstruction 18 = .ok (.dup, 1) := by decide +kernel
theorem d_K_doInstruction_19 : decode b_K_doInstruction 19 = .ok (.getfield 105, 3) := by decide +kernel
theorem d_K_doInstruction_22 : decode b_K_doInstruction 22 = .ok (.iconst 1, 1) := by decide +kernel
theorem d_K_doInstruction_23 : decode b_K_doInstruction 23 = .ok (.iadd, 1) := by decide +kernel
theorem d_K_doInstruction_24 : decode b_K_doInstruction 24 = .ok (.putfield 105, 3) := by decide +kernel
theorem d_K_doInstruction_27 : decode b_K_doInstruction 27 = .ok (.aload_n 2, 1) := by decide +kernel
theorem d_K_doInstruction_28 : decode b_K_doInstruction 28 = .ok (.getfield 143, 3) := by decide +kernel
theorem d_K_doInstruction_31 : decode b_K_doInstruction 31 = .ok (.istore_n 3, 1) := by decide +kernel
theorem d_K_doInstruction_32 : decode b_K_doInstruction 32 = .ok (.iload_n 3, 1) := by decide +kernel
theorem d_K_doInstruction_33 : decode b_K_doInstruction 33 = .ok (.invokestatic 43, 3) := by decide +kernel
theorem d_K_doInstruction_36 : decode b_K_doInstruction 36 = .ok (.istore 4, 2) := by decide +kernel
theorem d_K_doInstruction_38 : decode b_K_doInstruction 38 = .ok (.iload 4, 2) := by decide +kernel
theorem d_K_doInstruction_40 : decode b_K_doInstruction 40 = .ok (.ifCond .eq 30, 3) := by decide +kernel
theorem d_K_doInstruction_43 : decode b_K_doInstruction 43 = .ok (.aload_n 0, 1) := by decide +kernel
theorem d_K_doInstruction_44 : decode b_K_doInstruction 44 = .ok (.getfield 18, 3) := by decide +kernel
theorem d_K_doInstruction_47 : decode b_K_doInstruction 47 = .ok (.aload_n 2, 1) := by decide +kernel
theorem d_K_doInstruction_48 : decode b_K_doInstruction 48 = .ok (.iload_n 3, 1) := by decide +kernel
theorem d_K_doInstruction_49 : decode b_K_doInstruction 49 = .ok (.invokevirtual 146, 3) := by decide +kernel
theorem d_K_doInstruction_52 : decode b_K_doInstruction 52 = .ok (.istore 5, 2) := by decide +kernel
theorem d_K_doInstruction_54 : decode b_K_doInstruction 54 = .ok (.aload_n 2, 1) := by decide +kernel
theorem d_K_doInstruction_55 : decode b_K_doInstruction 55 = .ok (.iload_n 3, 1) := by decide +kernel
theorem d_K_doInstruction_56 : decode b_K_doInstruction 56 = .ok (.iconst 1, 1) := by decide +kernel
theorem d_K_doInstruction_57 : decode b_K_doInstruction 57 = .ok (.iadd, 1) := by decide +kernel
theorem d_K_doInstruction_58 : decode b_K_doInstruction 58 = .ok (.putfield 143, 3) := by decide +kernel
theorem d_K_doInstruction_61 : decode b_K_doInstruction 61 = .ok (.aload_n 0, 1) := by decide +kernel
theorem d_K_doInstruction_62 : decode b_K_doInstruction 62 = .ok (.iload_n 1, 1) := by decide +kernel
theorem d_K_doInstruction_63 : decode b_K_doInstruction 63 = .ok (.iload 5, 2) := by decide +kernel
theorem d_K_doInstruction_65 : decode b_K_doInstruction 65 = .ok (.invokevirtual 150, 3) := by decide +kernel
theorem d_K_doInstruction_68 : decode b_K_doInstruction 68 = .ok (.istore 4, 2) := by decide +kernel
theorem d_K_doInstruction_70 : decode b_K_doInstruction 70 = .ok (.iload 4, 2) := by decide +kernel
theorem d_K_doInstruction_72 : decode b_K_doInstruction 72 = .ok (.ifCond .ne 20, 3) := by decide +kernel
theorem d_K_doInstruction_75 : decode b_K_doInstruction 75 = .ok (.aload_n 0, 1) := by decide +kernel
theorem d_K_doInstruction_76 : decode b_K_doInstruction 76 = .ok (.dup, 1) := by decide +kernel
theorem d_K_doInstruction_77 : decode b_K_doInstruction 77 = .ok (.getfield 130, 3) := by decide +kernel
theorem d_K_doInstruction_80 : decode b_K_doInstruction 80 = .ok (.iconst 1, 1) := by decide +kernel
theorem d_K_doInstruction_81 : decode b_K_doInstruction 81 = .ok (.iadd, 1) := by decide +kernel
theorem d_K_doInstruction_82 : decode b_K_doInstruction 82 = .ok (.putfield 130, 3) := by decide +kernel
theorem d_K_doInstruction_85 : decode b_K_doInstruction 85 = .ok (.aload_n 0, 1) := by decide +kernel
theorem d_K_doInstruction_86 : decode b_K_doInstruction 86 = .ok (.iload_n 1, 1) := by decide +kernel
theorem d_K_doInstruction_87 : decode b_K_doInstruction 87 = .ok (.bipush (-99), 2) := by decide +kernel
theorem d_K_doInstruction_89 : decode b_K_doInstruction 89 = .ok (.invokevirtual 62, 3) := by decide +kernel
theorem d_K_doInstruction_92 : decode b_K_doInstruction 92 = .ok (.return_, 1) := by decide +kernel
theorem d_M_fetch_0 : decode b_M_fetch 0 = .ok (.aload_n 0, 1) := by decide +kernel
theorem d_M_fetch_1 : decode b_M_fetch 1 = .ok (.aload_n 1, 1) := by decide +kernel
theorem d_M_fetch_2 : decode b_M_fetch 2 = .ok (.iload_n 2, 1) := by decide +kernel
theorem d_M_fetch_3 : decode b_M_fetch 3 = .ok (.bipush 8, 2) := by decide +kernel
theorem d_M_fetch_5 : decode b_M_fetch 5 = .ok (.idiv, 1) := by decide +kernel
theorem d_M_fetch_6 : decode b_M_fetch 6 = .ok (.iconst 0, 1) := by decide +kernel
theorem d_M_fetch_7 : decode b_M_fetch 7 = .ok (.invokevirtual 24, 3) := by decide +kernel
theorem d_M_fetch_10 : decode b_M_fetch 10 = .ok (.getfield 28, 3) := by decide +kernel
theorem d_M_fetch_13 : decode b_M_fetch 13 = .ok (.iload_n 2, 1) := by decide +kernel
theorem d_M_fetch_14 : decode b_M_fetch 14 = .ok (.bipush 8, 2) := by decide +kernel
theorem d_M_fetch_16 : decode b_M_fetch 16 = .ok (.irem, 1) := by decide +kernel
theorem d_M_fetch_17 : decode b_M_fetch 17 = .ok (.iaload, 1) := by decide +kernel
theorem d_M_fetch_18 : decode b_M_fetch 18 = .ok (.ireturn, 1) := by decide +kernel
theorem d_K_obey_0 : decode b_K_obey 0 = .ok (.aload_n 0, 1) := by decide +kernel
theorem d_K_obey_1 : decode b_K_obey 1 = .ok (.getfield 11, 3) := by decide +kernel
theorem d_K_obey_4 : decode b_K_obey 4 = .ok (.iload_n 1, 1) := by decide +kernel
theorem d_K_obey_5 : decode b_K_obey 5 = .ok (.aaload, 1) := by decide +kernel
theorem d_K_obey_6 : decode b_K_obey 6 = .ok (.astore_n 3, 1) := by decide +kernel
theorem d_K_obey_7 : decode b_K_obey 7 = .ok (.aload_n 3, 1) := by decide +kernel
theorem d_K_obey_8 : decode b_K_obey 8 = .ok (.getfield 88, 3) := by decide +kernel
theorem d_K_obey_11 : decode b_K_obey 11 = .ok (.astore 4, 2) := by decide +kernel
theorem d_K_obey_13 : decode b_K_obey 13 = .ok (.iload_n 2, 1) := by decide +kernel
theorem d_K_obey_14 : decode b_K_obey 14 = .ok (.iconst 4, 1) := by decide +kernel
theorem d_K_obey_15 : decode b_K_obey 15 = .ok (.ishr, 1) := by decide +kernel
theorem d_K_obey_16 : decode b_K_obey 16 = .ok (.iconst 3, 1) := by decide +kernel
theorem d_K_obey_17 : decode b_K_obey 17 = .ok (.iand, 1) := by decide +kernel
theorem d_K_obey_18 : decode b_K_obey 18 = .ok (.istore 5, 2) := by decide +kernel
theorem d_K_obey_20 : decode b_K_obey 20 = .ok (.aload 4, 2) := by decide +kernel
theorem d_K_obey_22 : decode b_K_obey 22 = .ok (.iload_n 2, 1) := by decide +kernel
theorem d_K_obey_23 : decode b_K_obey 23 = .ok (.bipush 6, 2) := by decide +kernel
theorem d_K_obey_25 : decode b_K_obey 25 = .ok (.ishr, 1) := by decide +kernel
theorem d_K_obey_26 : decode b_K_obey 26 = .ok (.iconst 3, 1) := by decide +kernel
theorem d_K_obey_27 : decode b_K_obey 27 = .ok (.iand, 1) := by decide +kernel
theorem d_K_obey_28 : decode b_K_obey 28 = .ok (.iaload, 1) := by decide +kernel
theorem d_K_obey_29 : decode b_K_obey 29 = .ok (.istore 6, 2) := by decide +kernel
theorem d_K_obey_31 : decode b_K_obey 31 = .ok (.iload_n 2, 1) := by decide +kernel
theorem d_K_obey_32 : decode b_K_obey 32 = .ok (.bipush 8, 2) := by decide +kernel
theorem d_K_obey_34 : decode b_K_obey 34 = .ok (.ishr, 1) := by decide +kernel
theorem d_K_obey_35 : decode b_K_obey 35 = .ok (.istore 7, 2) := by decide +kernel
theorem d_K_obey_37 : decode b_K_obey 37 = .ok (.iload_n 2, 1) := by decide +kernel
theorem d_K_obey_38 : decode b_K_obey 38 = .ok (.bipush 15, 2) := by decide +kernel
theorem d_K_obey_40 : decode b_K_obey 40 = .ok (.iand, 1) := by decide +kernel
theorem d_K_obey_41 : decode b_K_obey 41 = .ok (.tableswitch 222 0 9 #[55, 67, 76, 88, 100, 133, 166, 182, 190, 200], 55) := by decide +kernel
theorem d_K_obey_96 : decode b_K_obey 96 = .ok (.aload_n 0, 1) := by decide +kernel
theorem d_K_obey_97 : decode b_K_obey 97 = .ok (.iload_n 1, 1) := by decide +kernel
theorem d_K_obey_98 : decode b_K_obey 98 = .ok (.aload 4, 2) := by decide +kernel
theorem d_K_obey_100 : decode b_K_obey 100 = .ok (.iload 5, 2) := by decide +kernel
theorem d_K_obey_102 : decode b_K_obey 102 = .ok (.iaload, 1) := by decide +kernel
theorem d_K_obey_103 : decode b_K_obey 103 = .ok (.invokevirtual 62, 3) := by decide +kernel
theorem d_K_obey_106 : decode b_K_obey 106 = .ok (.iconst 1, 1) := by decide +kernel
theorem d_K_obey_107 : decode b_K_obey 107 = .ok (.ireturn, 1) := by decide +kernel
theorem d_K_obey_108 : decode b_K_obey 108 = .ok (.aload 4, 2) := by decide +kernel
theorem d_K_obey_110 : decode b_K_obey 110 = .ok (.iload 5, 2) := by decide +kernel
theorem d_K_obey_112 : decode b_K_obey 112 = .ok (.iload 7, 2) := by decide +kernel
theorem d_K_obey_114 : decode b_K_obey 114 = .ok (.iastore, 1) := by decide +kernel
theorem d_K_obey_115 : decode b_K_obey 115 = .ok (.iconst 1, 1) := by decide +kernel
theorem d_K_obey_116 : decode b_K_obey 116 = .ok (.ireturn, 1) := by decide +kernel
theorem d_K_obey_117 : decode b_K_obey 117 = .ok (.aload 4, 2) := by decide +kernel
theorem d_K_obey_119 : decode b_K_obey 119 = .ok (.iload 5, 2) := by decide +kernel
theorem d_K_obey_121 : decode b_K_obey 121 = .ok (.dup2, 1) := by decide +kernel
theorem d_K_obey_122 : decode b_K_obey 122 = .ok (.iaload, 1) := by decide +kernel
theorem d_K_obey_123 : decode b_K_obey 123 = .ok (.iload 6, 2) := by decide +kernel
theorem d_K_obey_125 : decode b_K_obey 125 = .ok (.iadd, 1) := by decide +kernel
theorem d_K_obey_126 : decode b_K_obey 126 = .ok (.iastore, 1) := by decide +kernel
theorem d_K_obey_127 : decode b_K_obey 127 = .ok (.iconst 1, 1) := by decide +kernel
theorem d_K_obey_128 : decode b_K_obey 128 = .ok (.ireturn, 1) := by decide +kernel
theorem d_K_obey_129 : decode b_K_obey 129 = .ok (.aload 4, 2) := by decide +kernel
theorem d_K_obey_131 : decode b_K_obey 131 = .ok (.iload 5, 2) := by decide +kernel
theorem d_K_obey_133 : decode b_K_obey 133 = .ok (.dup2, 1) := by decide +kernel
theorem d_K_obey_134 : decode b_K_obey 134 = .ok (.iaload, 1) := by decide +kernel
theorem d_K_obey_135 : decode b_K_obey 135 = .ok (.iload 6, 2) := by decide +kernel
theorem d_K_obey_137 : decode b_K_obey 137 = .ok (.isub, 1) := by decide +kernel
theorem d_K_obey_138 : decode b_K_obey 138 = .ok (.iastore, 1) := by decide +kernel
theorem d_K_obey_139 : decode b_K_obey 139 = .ok (.iconst 1, 1) := by decide +kernel
theorem d_K_obey_140 : decode b_K_obey 140 = .ok (.ireturn, 1) := by decide +kernel
theorem d_K_obey_141 : decode b_K_obey 141 = .ok (.iload 6, 2) := by decide +kernel
theorem d_K_obey_143 : decode b_K_obey 143 = .ok (.iload 7, 2) := by decide +kernel
theorem d_K_obey_145 : decode b_K_obey 145 = .ok (.iadd, 1) := by decide +kernel
theorem d_K_obey_146 : decode b_K_obey 146 = .ok (.invokestatic 43, 3) := by decide +kernel
theorem d_K_obey_149 : decode b_K_obey 149 = .ok (.ifCond .ne 5, 3) := by decide +kernel
theorem d_K_obey_152 : decode b_K_obey 152 = .ok (.iconst 0, 1) := by decide +kernel
theorem d_K_obey_153 : decode b_K_obey 153 = .ok (.ireturn, 1) := by decide +kernel
theorem d_K_obey_154 : decode b_K_obey 154 = .ok (.aload 4, 2) := by decide +kernel
theorem d_K_obey_156 : decode b_K_obey 156 = .ok (.iload 5, 2) := by decide +kernel
theorem d_K_obey_158 : decode b_K_obey 158 = .ok (.aload_n 0, 1) := by decide +kernel
theorem d_K_obey_159 : decode b_K_obey 159 = .ok (.getfield 18, 3) := by decide +kernel
theorem d_K_obey_162 : decode b_K_obey 162 = .ok (.aload_n 3, 1) := by decide +kernel
theorem d_K_obey_163 : decode b_K_obey 163 = .ok (.iload 6, 2) := by decide +kernel
theorem d_K_obey_165 : decode b_K_obey 165 = .ok (.iload 7, 2) := by decide +kernel
theorem d_K_obey_167 : decode b_K_obey 167 = .ok (.iadd, 1) := by decide +kernel
theorem d_K_obey_168 : decode b_K_obey 168 = .ok (.invokevirtual 146, 3) := by decide +kernel
theorem d_K_obey_171 : decode b_K_obey 171 = .ok (.iastore, 1) := by decide +kernel
theorem d_K_obey_172 : decode b_K_obey 172 = .ok (.iconst 1, 1) := by decide +kernel
theorem d_K_obey_173 : decode b_K_obey 173 = .ok (.ireturn, 1) := by decide +kernel
theorem d_K_obey_174 : decode b_K_obey 174 = .ok (.iload 6, 2) := by decide +kernel
theorem d_K_obey_176 : decode b_K_obey 176 = .ok (.iload 7, 2) := by decide +kernel
theorem d_K_obey_178 : decode b_K_obey 178 = .ok (.iadd, 1) := by decide +kernel
theorem d_K_obey_179 : decode b_K_obey 179 = .ok (.invokestatic 43, 3) := by decide +kernel
theorem d_K_obey_182 : decode b_K_obey 182 = .ok (.ifCond .ne 5, 3) := by decide +kernel
theorem d_K_obey_185 : decode b_K_obey 185 = .ok (.iconst 0, 1) := by decide +kernel
theorem d_K_obey_186 : decode b_K_obey 186 = .ok (.ireturn, 1) := by decide +kernel
theorem d_K_obey_187 : decode b_K_obey 187 = .ok (.aload_n 0, 1) := by decide +kernel
theorem d_K_obey_188 : decode b_K_obey 188 = .ok (.getfield 18, 3) := by decide +kernel
theorem d_K_obey_191 : decode b_K_obey 191 = .ok (.aload_n 3, 1) := by decide +kernel
theorem d_K_obey_192 : decode b_K_obey 192 = .ok (.iload 6, 2) := by decide +kernel
theorem d_K_obey_194 : decode b_K_obey 194 = .ok (.iload 7, 2) := by decide +kernel
theorem d_K_obey_196 : decode b_K_obey 196 = .ok (.iadd, 1) := by decide +kernel
theorem d_K_obey_197 : decode b_K_obey 197 = .ok (.aload 4, 2) := by decide +kernel
theorem d_K_obey_199 : decode b_K_obey 199 = .ok (.iload 5, 2) := by decide +kernel
theorem d_K_obey_201 : decode b_K_obey 201 = .ok (.iaload, 1) := by decide +kernel
theorem d_K_obey_202 : decode b_K_obey 202 = .ok (.invokevirtual 49, 3) := by decide +kernel
theorem d_K_obey_205 : decode b_K_obey 205 = .ok (.iconst 1, 1) := by decide +kernel
theorem d_K_obey_206 : decode b_K_obey 206 = .ok (.ireturn, 1) := by decide +kernel
theorem d_K_obey_207 : decode b_K_obey 207 = .ok (.aload 4, 2) := by decide +kernel
theorem d_K_obey_209 : decode b_K_obey 209 = .ok (.iload 5, 2) := by decide +kernel
theorem d_K_obey_211 : decode b_K_obey 211 = .ok (.iaload, 1) := by decide +kernel
theorem d_K_obey_212 : decode b_K_obey 212 = .ok (.ifCond .ne 9, 3) := by decide +kernel
theorem d_K_obey_215 : decode b_K_obey 215 = .ok (.aload_n 3, 1) := by decide +kernel
theorem d_K_obey_216 : decode b_K_obey 216 = .ok (.iload 7, 2) := by decide +kernel
theorem d_K_obey_218 : decode b_K_obey 218 = .ok (.putfield 143, 3) := by decide +kernel
theorem d_K_obey_221 : decode b_K_obey 221 = .ok (.iconst 1, 1) := by decide +kernel
theorem d_K_obey_222 : decode b_K_obey 222 = .ok (.ireturn, 1) := by decide +kernel
theorem d_K_obey_223 : decode b_K_obey 223 = .ok (.aload_n 3, 1) := by decide +kernel
theorem d_K_obey_224 : decode b_K_obey 224 = .ok (.iload 7, 2) := by decide +kernel
theorem d_K_obey_226 : decode b_K_obey 226 = .ok (.putfield 143, 3) := by decide +kernel
theorem d_K_obey_229 : decode b_K_obey 229 = .ok (.iconst 1, 1) := by decide +kernel
theorem d_K_obey_230 : decode b_K_obey 230 = .ok (.ireturn, 1) := by decide +kernel
theorem d_K_obey_231 : decode b_K_obey 231 = .ok (.aload_n 0, 1) := by decide +kernel
theorem d_K_obey_232 : decode b_K_obey 232 = .ok (.iload_n 1, 1) := by decide +kernel
theorem d_K_obey_233 : decode b_K_obey 233 = .ok (.iload 5, 2) := by decide +kernel
theorem d_K_obey_235 : decode b_K_obey 235 = .ok (.iload 7, 2) := by decide +kernel
theorem d_K_obey_237 : decode b_K_obey 237 = .ok (.invokevirtual 154, 3) := by decide +kernel
theorem d_K_obey_240 : decode b_K_obey 240 = .ok (.ireturn, 1) := by decide +kernel
theorem d_K_obey_241 : decode b_K_obey 241 = .ok (.aload 4, 2) := by decide +kernel
theorem d_K_obey_243 : decode b_K_obey 243 = .ok (.iload 5, 2) := by decide +kernel
theorem d_K_obey_245 : decode b_K_obey 245 = .ok (.aload 4, 2) := by decide +kernel
theorem d_K_obey_247 : decode b_K_obey 247 = .ok (.iload 5, 2) := by decide +kernel
theorem d_K_obey_249 : decode b_K_obey 249 = .ok (.iaload, 1) := by decide +kernel
theorem d_K_obey_250 : decode b_K_obey 250 = .ok (.iload 6, 2) := by decide +kernel
theorem d_K_obey_252 : decode b_K_obey 252 = .ok (.if_icmp .ge 7, 3) := by decide +kernel
theorem d_K_obey_255 : decode b_K_obey 255 = .ok (.iconst 1, 1) := by decide +kernel
theorem d_K_obey_256 : decode b_K_obey 256 = .ok (.goto 4, 3) := by decide +kernel
theorem d_K_obey_259 : decode b_K_obey 259 = .ok (.iconst 0, 1) := by decide +kernel
theorem d_K_obey_260 : decode b_K_obey 260 = .ok (.iastore, 1) := by decide +kernel
theorem d_K_obey_261 : decode b_K_obey 261 = .ok (.iconst 1, 1) := by decide +kernel
theorem d_K_obey_262 : decode b_K_obey 262 = .ok (.ireturn, 1) := by decide +kernel
theorem d_K_obey_263 : decode b_K_obey 263 = .ok (.iconst 0, 1) := by decide +kernel
theorem d_K_obey_264 : decode b_K_obey 264 = .ok (.ireturn, 1) := by decide +kernel
