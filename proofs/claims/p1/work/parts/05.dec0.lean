theorem d_K_init_0 : decode b_K_init 0 = .ok (.aload_n 0, 1) := by decide +kernel
theorem d_K_init_1 : decode b_K_init 1 = .ok (.invokespecial 3, 3) := by decide +kernel
theorem d_K_init_4 : decode b_K_init 4 = .ok (.aload_n 0, 1) := by decide +kernel
theorem d_K_init_5 : decode b_K_init 5 = .ok (.iconst 4, 1) := by decide +kernel
theorem d_K_init_6 : decode b_K_init 6 = .ok (.anewarray 9, 3) := by decide +kernel
theorem d_K_init_9 : decode b_K_init 9 = .ok (.putfield 11, 3) := by decide +kernel
theorem d_K_init_12 : decode b_K_init 12 = .ok (.aload_n 0, 1) := by decide +kernel
theorem d_K_init_13 : decode b_K_init 13 = .ok (.new 15, 3) := by decide +kernel
theorem d_K_init_16 : decode b_K_init 16 = .ok (.dup, 1) := by decide +kernel
theorem d_K_init_17 : decode b_K_init 17 = .ok (.invokespecial 17, 3) := by decide +kernel
theorem d_K_init_20 : decode b_K_init 20 = .ok (.putfield 18, 3) := by decide +kernel
theorem d_K_init_23 : decode b_K_init 23 = .ok (.aload_n 0, 1) := by decide +kernel
theorem d_K_init_24 : decode b_K_init 24 = .ok (.bipush 40, 2) := by decide +kernel
theorem d_K_init_26 : decode b_K_init 26 = .ok (.newarray .int, 2) := by decide +kernel
theorem d_K_init_28 : decode b_K_init 28 = .ok (.putfield 22, 3) := by decide +kernel
theorem d_K_init_31 : decode b_K_init 31 = .ok (.aload_n 0, 1) := by decide +kernel
theorem d_K_init_32 : decode b_K_init 32 = .ok (.iconst 3, 1) := by decide +kernel
theorem d_K_init_33 : decode b_K_init 33 = .ok (.putfield 26, 3) := by decide +kernel
theorem d_K_init_36 : decode b_K_init 36 = .ok (.iconst 0, 1) := by decide +kernel
theorem d_K_init_37 : decode b_K_init 37 = .ok (.istore_n 1, 1) := by decide +kernel
theorem d_K_init_38 : decode b_K_init 38 = .ok (.iload_n 1, 1) := by decide +kernel
theorem d_K_init_39 : decode b_K_init 39 = .ok (.iconst 4, 1) := by decide +kernel
theorem d_K_init_40 : decode b_K_init 40 = .ok (.if_icmp .ge 22, 3) := by decide +kernel
theorem d_K_init_43 : decode b_K_init 43 = .ok (.aload_n 0, 1) := by decide +kernel
theorem d_K_init_44 : decode b_K_init 44 = .ok (.getfield 11, 3) := by decide +kernel
theorem d_K_init_47 : decode b_K_init 47 = .ok (.iload_n 1, 1) := by decide +kernel
theorem d_K_init_48 : decode b_K_init 48 = .ok (.new 9, 3) := by decide +kernel
theorem d_K_init_51 : decode b_K_init 51 = .ok (.dup, 1) := by decide +kernel
theorem d_K_init_52 : decode b_K_init 52 = .ok (.invokespecial 30, 3) := by decide +kernel
theorem d_K_init_55 : decode b_K_init 55 = .ok (.aastore, 1) := by decide +kernel
theorem d_K_init_56 : decode b_K_init 56 = .ok (.iinc 1 1, 3) := by decide +kernel
theorem d_K_init_59 : decode b_K_init 59 = .ok (.goto (-21), 3) := by decide +kernel
theorem d_K_init_62 : decode b_K_init 62 = .ok (.return_, 1) := by decide +kernel
theorem d_M_init_0 : decode b_M_init 0 = .ok (.aload_n 0, 1) := by decide +kernel
theorem d_M_init_1 : decode b_M_init 1 = .ok (.invokespecial 3, 3) := by decide +kernel
theorem d_M_init_4 : decode b_M_init 4 = .ok (.aload_n 0, 1) := by decide +kernel
theorem d_M_init_5 : decode b_M_init 5 = .ok (.bipush 32, 2) := by decide +kernel
theorem d_M_init_7 : decode b_M_init 7 = .ok (.anewarray 9, 3) := by decide +kernel
theorem d_M_init_10 : decode b_M_init 10 = .ok (.putfield 11, 3) := by decide +kernel
theorem d_M_init_13 : decode b_M_init 13 = .ok (.aload_n 0, 1) := by decide +kernel
theorem d_M_init_14 : decode b_M_init 14 = .ok (.bipush 6, 2) := by decide +kernel
theorem d_M_init_16 : decode b_M_init 16 = .ok (.anewarray 9, 3) := by decide +kernel
theorem d_M_init_19 : decode b_M_init 19 = .ok (.putfield 17, 3) := by decide +kernel
theorem d_M_init_22 : decode b_M_init 22 = .ok (.aload_n 0, 1) := by decide +kernel
theorem d_M_init_23 : decode b_M_init 23 = .ok (.bipush 32, 2) := by decide +kernel
theorem d_M_init_25 : decode b_M_init 25 = .ok (.anewarray 9, 3) := by decide +kernel
theorem d_M_init_28 : decode b_M_init 28 = .ok (.putfield 20, 3) := by decide +kernel
theorem d_M_init_31 : decode b_M_init 31 = .ok (.iconst 0, 1) := by decide +kernel
theorem d_M_init_32 : decode b_M_init 32 = .ok (.istore_n 1, 1) := by decide +kernel
theorem d_M_init_33 : decode b_M_init 33 = .ok (.iload_n 1, 1) := by decide +kernel
theorem d_M_init_34 : decode b_M_init 34 = .ok (.bipush 32, 2) := by decide +kernel
theorem d_M_init_36 : decode b_M_init 36 = .ok (.if_icmp .ge 22, 3) := by decide +kernel
theorem d_M_init_39 : decode b_M_init 39 = .ok (.aload_n 0, 1) := by decide +kernel
theorem d_M_init_40 : decode b_M_init 40 = .ok (.getfield 11, 3) := by decide +kernel
theorem d_M_init_43 : decode b_M_init 43 = .ok (.iload_n 1, 1) := by decide +kernel
theorem d_M_init_44 : decode b_M_init 44 = .ok (.new 9, 3) := by decide +kernel
theorem d_M_init_47 : decode b_M_init 47 = .ok (.dup, 1) := by decide +kernel
theorem d_M_init_48 : decode b_M_init 48 = .ok (.invokespecial 23, 3) := by decide +kernel
theorem d_M_init_51 : decode b_M_init 51 = .ok (.aastore, 1) := by decide +kernel
theorem d_M_init_52 : decode b_M_init 52 = .ok (.iinc 1 1, 3) := by decide +kernel
theorem d_M_init_55 : decode b_M_init 55 = .ok (.goto (-22), 3) := by decide +kernel
theorem d_M_init_58 : decode b_M_init 58 = .ok (.return_, 1) := by decide +kernel
theorem d_E_init_0 : decode b_E_init 0 = .ok (.aload_n 0, 1) := by decide +kernel
theorem d_E_init_1 : decode b_E_init 1 = .ok (.invokespecial 3, 3) := by decide +kernel
theorem d_E_init_4 : decode b_E_init 4 = .ok (.aload_n 0, 1) := by decide +kernel
theorem d_E_init_5 : decode b_E_init 5 = .ok (.bipush 8, 2) := by decide +kernel
theorem d_E_init_7 : decode b_E_init 7 = .ok (.newarray .int, 2) := by decide +kernel
theorem d_E_init_9 : decode b_E_init 9 = .ok (.putfield 9, 3) := by decide +kernel
theorem d_E_init_12 : decode b_E_init 12 = .ok (.aload_n 0, 1) := by decide +kernel
theorem d_E_init_13 : decode b_E_init 13 = .ok (.bipush (-2), 2) := by decide +kernel
theorem d_E_init_15 : decode b_E_init 15 = .ok (.putfield 15, 3) := by decide +kernel
theorem d_E_init_18 : decode b_E_init 18 = .ok (.aload_n 0, 1) := by decide +kernel
theorem d_E_init_19 : decode b_E_init 19 = .ok (.bipush (-2), 2) := by decide +kernel
theorem d_E_init_21 : decode b_E_init 21 = .ok (.putfield 19, 3) := by decide +kernel
theorem d_E_init_24 : decode b_E_init 24 = .ok (.return_, 1) := by decide +kernel
theorem d_T_init_0 : decode b_T_init 0 = .ok (.aload_n 0, 1) := by decide +kernel
theorem d_T_init_1 : decode b_T_init 1 = .ok (.invokespecial 3, 3) := by decide +kernel
theorem d_T_init_4 : decode b_T_init 4 = .ok (.aload_n 0, 1) := by decide +kernel
theorem d_T_init_5 : decode b_T_init 5 = .ok (.iconst 4, 1) := by decide +kernel
theorem d_T_init_6 : decode b_T_init 6 = .ok (.newarray .int, 2) := by decide +kernel
theorem d_T_init_8 : decode b_T_init 8 = .ok (.putfield 9, 3) := by decide +kernel
theorem d_T_init_11 : decode b_T_init 11 = .ok (.aload_n 0, 1) := by decide +kernel
theorem d_T_init_12 : decode b_T_init 12 = .ok (.bipush 8, 2) := by decide +kernel
theorem d_T_init_14 : decode b_T_init 14 = .ok (.anewarray 15, 3) := by decide +kernel
theorem d_T_init_17 : decode b_T_init 17 = .ok (.putfield 17, 3) := by decide +kernel
theorem d_T_init_20 : decode b_T_init 20 = .ok (.aload_n 0, 1) := by decide +kernel
theorem d_T_init_21 : decode b_T_init 21 = .ok (.iconst 0, 1) := by decide +kernel
theorem d_T_init_22 : decode b_T_init 22 = .ok (.putfield 21, 3) := by decide +kernel
theorem d_T_init_25 : decode b_T_init 25 = .ok (.aload_n 0, 1) := by decide +kernel
theorem d_T_init_26 : decode b_T_init 26 = .ok (.bipush (-2), 2) := by decide +kernel
theorem d_T_init_28 : decode b_T_init 28 = .ok (.putfield 25, 3) := by decide +kernel
theorem d_T_init_31 : decode b_T_init 31 = .ok (.return_, 1) := by decide +kernel
theorem d_K_spawn_0 : decode b_K_spawn 0 = .ok (.aload_n 0, 1) := by decide +kernel
theorem d_K_spawn_1 : decode b_K_spawn 1 = .ok (.invokevirtual 31, 3) := by decide +kernel
theorem d_K_spawn_4 : decode b_K_spawn 4 = .ok (.istore_n 1, 1) := by decide +kernel
theorem d_K_spawn_5 : decode b_K_spawn 5 = .ok (.iload_n 1, 1) := by decide +kernel
theorem d_K_spawn_6 : decode b_K_spawn 6 = .ok (.bipush (-2), 2) := by decide +kernel
theorem d_K_spawn_8 : decode b_K_spawn 8 = .ok (.if_icmp .ne 6, 3) := by decide +kernel
theorem d_K_spawn_11 : decode b_K_spawn 11 = .ok (.bipush (-3), 2) := by decide +kernel
theorem d_K_spawn_13 : decode b_K_spawn 13 = .ok (.ireturn, 1) := by decide +kernel
theorem d_K_spawn_14 : decode b_K_spawn 14 = .ok (.aload_n 0, 1) := by decide +kernel
theorem d_K_spawn_15 : decode b_K_spawn 15 = .ok (.getfield 11, 3) := by decide +kernel
theorem d_K_spawn_18 : decode b_K_spawn 18 = .ok (.iload_n 1, 1) := by decide +kernel
theorem d_K_spawn_19 : decode b_K_spawn 19 = .ok (.aaload, 1) := by decide +kernel
theorem d_K_spawn_20 : decode b_K_spawn 20 = .ok (.bipush (-2), 2) := by decide +kernel
theorem d_K_spawn_22 : decode b_K_spawn 22 = .ok (.invokevirtual 35, 3) := by decide +kernel
theorem d_K_spawn_25 : decode b_K_spawn 25 = .ok (.iload_n 1, 1) := by decide +kernel
theorem d_K_spawn_26 : decode b_K_spawn 26 = .ok (.ireturn, 1) := by decide +kernel
theorem d_K_leastAbsent_0 : decode b_K_leastAbsent 0 = .ok (.iconst 0, 1) := by decide +kernel
theorem d_K_leastAbsent_1 : decode b_K_leastAbsent 1 = .ok (.istore_n 1, 1) := by decide +kernel
theorem d_K_leastAbsent_2 : decode b_K_leastAbsent 2 = .ok (.iload_n 1, 1) := by decide +kernel
theorem d_K_leastAbsent_3 : decode b_K_leastAbsent 3 = .ok (.iconst 4, 1) := by decide +kernel
theorem d_K_leastAbsent_4 : decode b_K_leastAbsent 4 = .ok (.if_icmp .ge 23, 3) := by decide +kernel
theorem d_K_leastAbsent_7 : decode b_K_leastAbsent 7 = .ok (.aload_n 0, 1) := by decide +kernel
theorem d_K_leastAbsent_8 : decode b_K_leastAbsent 8 = .ok (.getfield 11, 3) := by decide +kernel
theorem d_K_leastAbsent_11 : decode b_K_leastAbsent 11 = .ok (.iload_n 1, 1) := by decide +kernel
theorem d_K_leastAbsent_12 : decode b_K_leastAbsent 12 = .ok (.aaload, 1) := by decide +kernel
theorem d_K_leastAbsent_13 : decode b_K_leastAbsent 13 = .ok (.getfield 85, 3) := by decide +kernel
theorem d_K_leastAbsent_16 : decode b_K_leastAbsent 16 = .ok (.ifCond .ne 5, 3) := by decide +kernel
theorem d_K_leastAbsent_19 : decode b_K_leastAbsent 19 = .ok (.iload_n 1, 1) := by decide +kernel
theorem d_K_leastAbsent_20 : decode b_K_leastAbsent 20 = .ok (.ireturn, 1) := by decide +kernel
theorem d_K_leastAbsent_21 : decode b_K_leastAbsent 21 = .ok (.iinc 1 1, 3) := by decide +kernel
theorem d_K_leastAbsent_24 : decode b_K_leastAbsent 24 = .ok (.goto (-22), 3) := by decide +kernel
theorem d_K_leastAbsent_27 : decode b_K_leastAbsent 27 = .ok (.bipush (-2), 2) := by decide +kernel
theorem d_K_leastAbsent_29 : decode b_K_leastAbsent 29 = .ok (.ireturn, 1) := by decide +kernel
theorem d_T_begin_0 : decode b_T_begin 0 = .ok (.aload_n 0, 1) := by decide +kernel
theorem d_T_begin_1 : decode b_T_begin 1 = .ok (.getfield 9, 3) := by decide +kernel
theorem d_T_begin_4 : decode b_T_begin 4 = .ok (.iconst 0, 1) := by decide +kernel
theorem d_T_begin_5 : decode b_T_begin 5 = .ok (.invokestatic 28, 3) := by decide +kernel
theorem d_T_begin_8 : decode b_T_begin 8 = .ok (.aload_n 0, 1) := by decide +kernel
theorem d_T_begin_9 : decode b_T_begin 9 = .ok (.iconst 1, 1) := by decide +kernel
theorem d_T_begin_10 : decode b_T_begin 10 = .ok (.putfield 21, 3) := by decide +kernel
theorem d_T_begin_13 : decode b_T_begin 13 = .ok (.aload_n 0, 1) := by decide +kernel
theorem d_T_begin_14 : decode b_T_begin 14 = .ok (.iconst 0, 1) := by decide +kernel
theorem d_T_begin_15 : decode b_T_begin 15 = .ok (.putfield 34, 3) := by decide +kernel
theorem d_T_begin_18 : decode b_T_begin 18 = .ok (.aload_n 0, 1) := by decide +kernel
theorem d_T_begin_19 : decode b_T_begin 19 = .ok (.iload_n 1, 1) := by decide +kernel
theorem d_T_begin_20 : decode b_T_begin 20 = .ok (.putfield 25, 3) := by decide +kernel
theorem d_T_begin_23 : decode b_T_begin 23 = .ok (.aload_n 0, 1) := by decide +kernel
theorem d_T_begin_24 : decode b_T_begin 24 = .ok (.iconst 0, 1) := by decide +kernel
theorem d_T_begin_25 : decode b_T_begin 25 = .ok (.putfield 37, 3) := by decide +kernel
theorem d_T_begin_28 : decode b_T_begin 28 = .ok (.aload_n 0, 1) := by decide +kernel
theorem d_T_begin_29 : decode b_T_begin 29 = .ok (.iconst 0, 1) := by decide +kernel
theorem d_T_begin_30 : decode b_T_begin 30 = .ok (.putfield 40, 3) := by decide +kernel
theorem d_T_begin_33 : decode b_T_begin 33 = .ok (.aload_n 0, 1) := by decide +kernel
theorem d_T_begin_34 : decode b_T_begin 34 = .ok (.iconst 0, 1) := by decide +kernel
theorem d_T_begin_35 : decode b_T_begin 35 = .ok (.putfield 43, 3) := by decide +kernel
theorem d_T_begin_38 : decode b_T_begin 38 = .ok (.aload_n 0, 1) := by decide +kernel
theorem d_T_begin_39 : decode b_T_begin 39 = .ok (.iconst 0, 1) := by decide +kernel
theorem d_T_begin_40 : decode b_T_begin 40 = .ok (.putfield 46, 3) := by decide +kernel
theorem d_T_begin_43 : decode b_T_begin 43 = .ok (.return_, 1) := by decide +kernel
theorem d_J_fill_0 : decode b_J_fill 0 = .ok (.iconst 0, 1) := by decide +kernel
theorem d_J_fill_1 : decode b_J_fill 1 = .ok (.istore_n 2, 1) := by decide +kernel
theorem d_J_fill_2 : decode b_J_fill 2 = .ok (.aload_n 0, 1) := by decide +kernel
theorem d_J_fill_3 : decode b_J_fill 3 = .ok (.arraylength, 1) := by decide +kernel
theorem d_J_fill_4 : decode b_J_fill 4 = .ok (.istore_n 3, 1) := by decide +kernel
theorem d_J_fill_5 : decode b_J_fill 5 = .ok (.iload_n 2, 1) := by decide +kernel
theorem d_J_fill_6 : decode b_J_fill 6 = .ok (.iload_n 3, 1) := by decide +kernel
theorem d_J_fill_7 : decode b_J_fill 7 = .ok (.if_icmp .ge 13, 3) := by decide +kernel
theorem d_J_fill_10 : decode b_J_fill 10 = .ok (.aload_n 0, 1) := by decide +kernel
theorem d_J_fill_11 : decode b_J_fill 11 = .ok (.iload_n 2, 1) := by decide +kernel
theorem d_J_fill_12 : decode b_J_fill 12 = .ok (.iload_n 1, 1) := by decide +kernel
theorem d_J_fill_13 : decode b_J_fill 13 = .ok (.iastore, 1) := by decide +kernel
theorem d_J_fill_14 : decode b_J_fill 14 = .ok (.iinc 2 1, 3) := by decide +kernel
theorem d_J_fill_17 : decode b_J_fill 17 = .ok (.goto (-12), 3) := by decide +kernel
theorem d_J_fill_20 : decode b_J_fill 20 = .ok (.return_, 1) := by decide +kernel
theorem d_K_poke_0 : decode b_K_poke 0 = .ok (.aload_n 0, 1) := by decide +kernel
theorem d_K_poke_1 : decode b_K_poke 1 = .ok (.iload_n 1, 1) := by decide +kernel
theorem d_K_poke_2 : decode b_K_poke 2 = .ok (.invokevirtual 39, 3) := by decide +kernel
theorem d_K_poke_5 : decode b_K_poke 5 = .ok (.ifCond .eq 10, 3) := by decide +kernel
theorem d_K_poke_8 : decode b_K_poke 8 = .ok (.iload_n 2, 1) := by decide +kernel
theorem d_K_poke_9 : decode b_K_poke 9 = .ok (.invokestatic 43, 3) := by decide +kernel
theorem d_K_poke_12 : decode b_K_poke 12 = .ok (.ifCond .ne 5, 3) := by decide +kernel
theorem d_K_poke_15 : decode b_K_poke 15 = .ok (.iconst (-1), 1) := by decide +kernel
theorem d_K_poke_16 : decode b_K_poke 16 = .ok (.ireturn, 1) := by decide +kernel
theorem d_K_poke_17 : decode b_K_poke 17 = .ok (.aload_n 0, 1) := by decide +kernel
theorem d_K_poke_18 : decode b_K_poke 18 = .ok (.getfield 18, 3) := by decide +kernel
theorem d_K_poke_21 : decode b_K_poke 21 = .ok (.getfield 46, 3) := by decide +kernel
theorem d_K_poke_24 : decode b_K_poke 24 = .ok (.istore 4, 2) := by decide +kernel
theorem d_K_poke_26 : decode b_K_poke 26 = .ok (.aload_n 0, 1) := by decide +kernel
theorem d_K_poke_27 : decode b_K_poke 27 = .ok (.getfield 18, 3) := by decide +kernel
theorem d_K_poke_30 : decode b_K_poke 30 = .ok (.aload_n 0, 1) := by decide +kernel
theorem d_K_poke_31 : decode b_K_poke 31 = .ok (.getfield 11, 3) := by decide +kernel
theorem d_K_poke_34 : decode b_K_poke 34 = .ok (.iload_n 1, 1) := by decide +kernel
theorem d_K_poke_35 : decode b_K_poke 35 = .ok (.aaload, 1) := by decide +kernel
theorem d_K_poke_36 : decode b_K_poke 36 = .ok (.iload_n 2, 1) := by decide +kernel
theorem d_K_poke_37 : decode b_K_poke 37 = .ok (.iload_n 3, 1) := by decide +kernel
theorem d_K_poke_38 : decode b_K_poke 38 = .ok (.invokevirtual 49, 3) := by decide +kernel
theorem d_K_poke_41 : decode b_K_poke 41 = .ok (.aload_n 0, 1) := by decide +kernel
theorem d_K_poke_42 : decode b_K_poke 42 = .ok (.getfield 18, 3) := by decide +kernel
theorem d_K_poke_45 : decode b_K_poke 45 = .ok (.getfield 46, 3) := by decide +kernel
theorem d_K_poke_48 : decode b_K_poke 48 = .ok (.iload 4, 2) := by decide +kernel
theorem d_K_poke_50 : decode b_K_poke 50 = .ok (.isub, 1) := by decide +kernel
theorem d_K_poke_51 : decode b_K_poke 51 = .ok (.ireturn, 1) := by decide +kernel
theorem d_K_lives_0 : decode b_K_lives 0 = .ok (.aload_n 0, 1) := by decide +kernel
theorem d_K_lives_1 : decode b_K_lives 1 = .ok (.iload_n 1, 1) := by decide +kernel
theorem d_K_lives_2 : decode b_K_lives 2 = .ok (.invokevirtual 95, 3) := by decide +kernel
theorem d_K_lives_5 : decode b_K_lives 5 = .ok (.ifCond .eq 20, 3) := by decide +kernel
theorem d_K_lives_8 : decode b_K_lives 8 = .ok (.aload_n 0, 1) := by decide +kernel
theorem d_K_lives_9 : decode b_K_lives 9 = .ok (.getfield 11, 3) := by decide +kernel
theorem d_K_lives_12 : decode b_K_lives 12 = .ok (.iload_n 1, 1) := by decide +kernel
theorem d_K_lives_13 : decode b_K_lives 13 = .ok (.aaload, 1) := by decide +kernel
theorem d_K_lives_14 : decode b_K_lives 14 = .ok (.getfield 85, 3) := by decide +kernel
theorem d_K_lives_17 : decode b_K_lives 17 = .ok (.iconst 4, 1) := by decide +kernel
theorem d_K_lives_18 : decode b_K_lives 18 = .ok (.if_icmp .eq 7, 3) := by decide +kernel
theorem d_K_lives_21 : decode b_K_lives 21 = .ok (.iconst 1, 1) := by decide +kernel
theorem d_K_lives_22 : decode b_K_lives 22 = .ok (.goto 4, 3) := by decide +kernel
theorem d_K_lives_25 : decode b_K_lives 25 = .ok (.iconst 0, 1) := by decide +kernel
theorem d_K_lives_26 : decode b_K_lives 26 = .ok (.ireturn, 1) := by decide +kernel
theorem d_K_isThere_0 : decode b_K_isThere 0 = .ok (.iload_n 1, 1) := by decide +kernel
theorem d_K_isThere_1 : decode b_K_isThere 1 = .ok (.invokestatic 82, 3) := by decide +kernel
theorem d_K_isThere_4 : decode b_K_isThere 4 = .ok (.ifCond .eq 19, 3) := by decide +kernel
theorem d_K_isThere_7 : decode b_K_isThere 7 = .ok (.aload_n 0, 1) := by decide +kernel
theorem d_K_isThere_8 : decode b_K_isThere 8 = .ok (.getfield 11, 3) := by decide +kernel
theorem d_K_isThere_11 : decode b_K_isThere 11 = .ok (.iload_n 1, 1) := by decide +kernel
theorem d_K_isThere_12 : decode b_K_isThere 12 = .ok (.aaload, 1) := by decide +kernel
theorem d_K_isThere_13 : decode b_K_isThere 13 = .ok (.getfield 85, 3) := by decide +kernel
theorem d_K_isThere_16 : decode b_K_isThere 16 = .ok (.ifCond .eq 7, 3) := by decide +kernel
theorem d_K_isThere_19 : decode b_K_isThere 19 = .ok (.iconst 1, 1) := by decide +kernel
theorem d_K_isThere_20 : decode b_K_isThere 20 = .ok (.goto 4, 3) := by decide +kernel
theorem d_K_isThere_23 : decode b_K_isThere 23 = .ok (.iconst 0, 1) := by decide +kernel
theorem d_K_isThere_24 : decode b_K_isThere 24 = .ok (.ireturn, 1) := by decide +kernel
theorem d_K_isTask_0 : decode b_K_isTask 0 = .ok (.iload_n 0, 1) := by decide +kernel
theorem d_K_isTask_1 : decode b_K_isTask 1 = .ok (.ifCond .lt 12, 3) := by decide +kernel
theorem d_K_isTask_4 : decode b_K_isTask 4 = .ok (.iload_n 0, 1) := by decide +kernel
theorem d_K_isTask_5 : decode b_K_isTask 5 = .ok (.iconst 4, 1) := by decide +kernel
theorem d_K_isTask_6 : decode b_K_isTask 6 = .ok (.if_icmp .ge 7, 3) := by decide +kernel
theorem d_K_isTask_9 : decode b_K_isTask 9 = .ok (.iconst 1, 1) := by decide +kernel
theorem d_K_isTask_10 : decode b_K_isTask 10 = .ok (.goto 4, 3) := by decide +kernel
theorem d_K_isTask_13 : decode b_K_isTask 13 = .ok (.iconst 0, 1) := by decide +kernel
theorem d_K_isTask_14 : decode b_K_isTask 14 = .ok (.ireturn, 1) := by decide +kernel
theorem d_K_isAddress_0 : decode b_K_isAddress 0 = .ok (.iload_n 0, 1) := by decide +kernel
theorem d_K_isAddress_1 : decode b_K_isAddress 1 = .ok (.ifCond .lt 13, 3) := by decide +kernel
theorem d_K_isAddress_4 : decode b_K_isAddress 4 = .ok (.iload_n 0, 1) := by decide +kernel
theorem d_K_isAddress_5 : decode b_K_isAddress 5 = .ok (.bipush 64, 2) := by decide +kernel
theorem d_K_isAddress_7 : decode b_K_isAddress 7 = .ok (.if_icmp .ge 7, 3) := by decide +kernel
theorem d_K_isAddress_10 : decode b_K_isAddress 10 = .ok (.iconst 1, 1) := by decide +kernel
theorem d_K_isAddress_11 : decode b_K_isAddress 11 = .ok (.goto 4, 3) := by decide +kernel
theorem d_K_isAddress_14 : decode b_K_isAddress 14 = .ok (.iconst 0, 1) := by decide +kernel
theorem d_K_isAddress_15 : decode b_K_isAddress 15 = .ok (.ireturn, 1) := by decide +kernel
theorem d_M_write_0 : decode b_M_write 0 = .ok (.aload_n 0, 1) := by decide +kernel
theorem d_M_write_1 : decode b_M_write 1 = .ok (.aload_n 1, 1) := by decide +kernel
theorem d_M_write_2 : decode b_M_write 2 = .ok (.iload_n 2, 1) := by decide +kernel
theorem d_M_write_3 : decode b_M_write 3 = .ok (.bipush 8, 2) := by decide +kernel
theorem d_M_write_5 : decode b_M_write 5 = .ok (.idiv, 1) := by decide +kernel
theorem d_M_write_6 : decode b_M_write 6 = .ok (.iconst 1, 1) := by decide +kernel
theorem d_M_write_7 : decode b_M_write 7 = .ok (.invokevirtual 24, 3) := by decide +kernel
theorem d_M_write_10 : decode b_M_write 10 = .ok (.getfield 28, 3) := by decide +kernel
theorem d_M_write_13 : decode b_M_write 13 = .ok (.iload_n 2, 1) := by decide +kernel
theorem d_M_write_14 : decode b_M_write 14 = .ok (.bipush 8, 2) := by decide +kernel
theorem d_M_write_16 : decode b_M_write 16 = .ok (.irem, 1) := by decide +kernel
theorem d_M_write_17 : decode b_M_write 17 = .ok (.iload_n 3, 1) := by decide +kernel
theorem d_M_write_18 : decode b_M_write 18 = .ok (.iastore, 1) := by decide +kernel
theorem d_M_write_19 : decode b_M_write 19 = .ok (.return_, 1) := by decide +kernel
theorem d_M_reach_0 : decode b_M_reach 0 = .ok (.aload_n 1, 1) := by decide +kernel
theorem d_M_reach_1 : decode b_M_reach 1 = .ok (.getfield 32, 3) := by decide +kernel
theorem d_M_reach_4 : decode b_M_reach 4 = .ok (.iload_n 2, 1) := by decide +kernel
theorem d_M_reach_5 : decode b_M_reach 5 = .ok (.aaload, 1) := by decide +kernel
theorem d_M_reach_6 : decode b_M_reach 6 = .ok (.ifnonnull 13, 3) := by decide +kernel
theorem d_M_reach_9 : decode b_M_reach 9 = .ok (.aload_n 1, 1) := by decide +kernel
theorem d_M_reach_10 : decode b_M_reach 10 = .ok (.getfield 32, 3) := by decide +kernel
theorem d_M_reach_13 : decode b_M_reach 13 = .ok (.iload_n 2, 1) := by decide +kernel
theorem d_M_reach_14 : decode b_M_reach 14 = .ok (.aload_n 0, 1) := by decide +kernel
theorem d_M_reach_15 : decode b_M_reach 15 = .ok (.invokevirtual 37, 3) := by decide +kernel
theorem d_M_reach_18 : decode b_M_reach 18 = .ok (.aastore, 1) := by decide +kernel
theorem d_M_reach_19 : decode b_M_reach 19 = .ok (.aload_n 1, 1) := by decide +kernel
theorem d_M_reach_20 : decode b_M_reach 20 = .ok (.getfield 32, 3) := by decide +kernel
theorem d_M_reach_23 : decode b_M_reach 23 = .ok (.iload_n 2, 1) := by decide +kernel
theorem d_M_reach_24 : decode b_M_reach 24 = .ok (.aaload, 1) := by decide +kernel
theorem d_M_reach_25 : decode b_M_reach 25 = .ok (.astore 4, 2) := by decide +kernel
theorem d_M_reach_27 : decode b_M_reach 27 = .ok (.aload 4, 2) := by decide +kernel
theorem d_M_reach_29 : decode b_M_reach 29 = .ok (.getfield 41, 3) := by decide +kernel
theorem d_M_reach_32 : decode b_M_reach 32 = .ok (.bipush (-2), 2) := by decide +kernel
theorem d_M_reach_34 : decode b_M_reach 34 = .ok (.if_icmp .ne 49, 3) := by decide +kernel
theorem d_M_reach_37 : decode b_M_reach 37 = .ok (.aload_n 1, 1) := by decide +kernel
theorem d_M_reach_38 : decode b_M_reach 38 = .ok (.dup, 1) := by decide +kernel
theorem d_M_reach_39 : decode b_M_reach 39 = .ok (.getfield 45, 3) := by decide +kernel
theorem d_M_reach_42 : decode b_M_reach 42 = .ok (.iconst 1, 1) := by decide +kernel
theorem d_M_reach_43 : decode b_M_reach 43 = .ok (.iadd, 1) := by decide +kernel
theorem d_M_reach_44 : decode b_M_reach 44 = .ok (.putfield 45, 3) := by decide +kernel
theorem d_M_reach_47 : decode b_M_reach 47 = .ok (.aload_n 0, 1) := by decide +kernel
theorem d_M_reach_48 : decode b_M_reach 48 = .ok (.dup, 1) := by decide +kernel
theorem d_M_reach_49 : decode b_M_reach 49 = .ok (.getfield 48, 3) := by decide +kernel
theorem d_M_reach_52 : decode b_M_reach 52 = .ok (.iconst 1, 1) := by decide +kernel
theorem d_M_reach_53 : decode b_M_reach 53 = .ok (.iadd, 1) := by decide +kernel
theorem d_M_reach_54 : decode b_M_reach 54 = .ok (.putfield 48, 3) := by decide +kernel
theorem d_M_reach_57 : decode b_M_reach 57 = .ok (.aload 4, 2) := by decide +kernel
theorem d_M_reach_59 : decode b_M_reach 59 = .ok (.getfield 49, 3) := by decide +kernel
theorem d_M_reach_62 : decode b_M_reach 62 = .ok (.bipush (-2), 2) := by decide +kernel
theorem d_M_reach_64 : decode b_M_reach 64 = .ok (.if_icmp .eq 13, 3) := by decide +kernel
theorem d_M_reach_67 : decode b_M_reach 67 = .ok (.aload_n 0, 1) := by decide +kernel
theorem d_M_reach_68 : decode b_M_reach 68 = .ok (.dup, 1) := by decide +kernel
theorem d_M_reach_69 : decode b_M_reach 69 = .ok (.getfield 52, 3) := by decide +kernel
theorem d_M_reach_72 : decode b_M_reach 72 = .ok (.iconst 1, 1) := by decide +kernel
theorem d_M_reach_73 : decode b_M_reach 73 = .ok (.iadd, 1) := by decide +kernel
theorem d_M_reach_74 : decode b_M_reach 74 = .ok (.putfield 52, 3) := by decide +kernel
theorem d_M_reach_77 : decode b_M_reach 77 = .ok (.aload_n 0, 1) := by decide +kernel
theorem d_M_reach_78 : decode b_M_reach 78 = .ok (.aload 4, 2) := by decide +kernel
theorem d_M_reach_80 : decode b_M_reach 80 = .ok (.invokevirtual 55, 3) := by decide +kernel
theorem d_M_reach_83 : decode b_M_reach 83 = .ok (.iload_n 3, 1) := by decide +kernel
theorem d_M_reach_84 : decode b_M_reach 84 = .ok (.ifCond .eq 34, 3) := by decide +kernel
theorem d_M_reach_87 : decode b_M_reach 87 = .ok (.aload 4, 2) := by decide +kernel
theorem d_M_reach_89 : decode b_M_reach 89 = .ok (.getfield 59, 3) := by decide +kernel
theorem d_M_reach_92 : decode b_M_reach 92 = .ok (.iconst 1, 1) := by decide +kernel
theorem d_M_reach_93 : decode b_M_reach 93 = .ok (.if_icmp .le 25, 3) := by decide +kernel
theorem d_M_reach_96 : decode b_M_reach 96 = .ok (.aload_n 0, 1) := by decide +kernel
theorem d_M_reach_97 : decode b_M_reach 97 = .ok (.aload 4, 2) := by decide +kernel
theorem d_M_reach_99 : decode b_M_reach 99 = .ok (.invokevirtual 62, 3) := by decide +kernel
theorem d_M_reach_102 : decode b_M_reach 102 = .ok (.astore 4, 2) := by decide +kernel
theorem d_M_reach_104 : decode b_M_reach 104 = .ok (.aload_n 1, 1) := by decide +kernel
theorem d_M_reach_105 : decode b_M_reach 105 = .ok (.getfield 32, 3) := by decide +kernel
theorem d_M_reach_108 : decode b_M_reach 108 = .ok (.iload_n 2, 1) := by decide +kernel
theorem d_M_reach_109 : decode b_M_reach 109 = .ok (.aload 4, 2) := by decide +kernel
theorem d_M_reach_111 : decode b_M_reach 111 = .ok (.aastore, 1) := by decide +kernel
theorem d_M_reach_112 : decode b_M_reach 112 = .ok (.aload_n 0, 1) := by decide +kernel
theorem d_M_reach_113 : decode b_M_reach 113 = .ok (.aload 4, 2) := by decide +kernel
theorem d_M_reach_115 : decode b_M_reach 115 = .ok (.invokevirtual 55, 3) := by decide +kernel
theorem d_M_reach_118 : decode b_M_reach 118 = .ok (.aload 4, 2) := by decide +kernel
theorem d_M_reach_120 : decode b_M_reach 120 = .ok (.iconst 1, 1) := by decide +kernel
theorem d_M_reach_121 : decode b_M_reach 121 = .ok (.putfield 66, 3) := by decide +kernel
theorem d_M_reach_124 : decode b_M_reach 124 = .ok (.iload_n 3, 1) := by decide +kernel
theorem d_M_reach_125 : decode b_M_reach 125 = .ok (.ifCond .eq 9, 3) := by decide +kernel
theorem d_M_reach_128 : decode b_M_reach 128 = .ok (.aload 4, 2) := by decide +kernel
theorem d_M_reach_130 : decode b_M_reach 130 = .ok (.iconst 1, 1) := by decide +kernel
theorem d_M_reach_131 : decode b_M_reach 131 = .ok (.putfield 70, 3) := by decide +kernel
theorem d_M_reach_134 : decode b_M_reach 134 = .ok (.aload 4, 2) := by decide +kernel
theorem d_M_reach_136 : decode b_M_reach 136 = .ok (.areturn, 1) := by decide +kernel
theorem d_M_newSheet_0 : decode b_M_newSheet 0 = .ok (.iconst 0, 1) := by decide +kernel
theorem d_M_newSheet_1 : decode b_M_newSheet 1 = .ok (.istore_n 1, 1) := by decide +kernel
theorem d_M_newSheet_2 : decode b_M_newSheet 2 = .ok (.iload_n 1, 1) := by decide +kernel
theorem d_M_newSheet_3 : decode b_M_newSheet 3 = .ok (.bipush 31, 2) := by decide +kernel
theorem d_M_newSheet_5 : decode b_M_newSheet 5 = .ok (.if_icmp .ge 21, 3) := by decide +kernel
theorem d_M_newSheet_8 : decode b_M_newSheet 8 = .ok (.aload_n 0, 1) := by decide +kernel
theorem d_M_newSheet_9 : decode b_M_newSheet 9 = .ok (.getfield 11, 3) := by decide +kernel
theorem d_M_newSheet_12 : decode b_M_newSheet 12 = .ok (.iload_n 1, 1) := by decide +kernel
theorem d_M_newSheet_13 : decode b_M_newSheet 13 = .ok (.aaload, 1) := by decide +kernel
theorem d_M_newSheet_14 : decode b_M_newSheet 14 = .ok (.getfield 59, 3) := by decide +kernel
theorem d_M_newSheet_17 : decode b_M_newSheet 17 = .ok (.ifCond .le 9, 3) := by decide +kernel
theorem d_M_newSheet_20 : decode b_M_newSheet 20 = .ok (.iinc 1 1, 3) := by decide +kernel
theorem d_M_newSheet_23 : decode b_M_newSheet 23 = .ok (.goto (-21), 3) := by decide +kernel
theorem d_M_newSheet_26 : decode b_M_newSheet 26 = .ok (.aload_n 0, 1) := by decide +kernel
theorem d_M_newSheet_27 : decode b_M_newSheet 27 = .ok (.getfield 11, 3) := by decide +kernel
theorem d_M_newSheet_30 : decode b_M_newSheet 30 = .ok (.iload_n 1, 1) := by decide +kernel
theorem d_M_newSheet_31 : decode b_M_newSheet 31 = .ok (.aaload, 1) := by decide +kernel
theorem d_M_newSheet_32 : decode b_M_newSheet 32 = .ok (.astore_n 2, 1) := by decide +kernel
theorem d_M_newSheet_33 : decode b_M_newSheet 33 = .ok (.aload_n 2, 1) := by decide +kernel
theorem d_M_newSheet_34 : decode b_M_newSheet 34 = .ok (.getfield 28, 3) := by decide +kernel
theorem d_M_newSheet_37 : decode b_M_newSheet 37 = .ok (.iconst 0, 1) := by decide +kernel
theorem d_M_newSheet_38 : decode b_M_newSheet 38 = .ok (.invokestatic 73, 3) := by decide +kernel
theorem d_M_newSheet_41 : decode b_M_newSheet 41 = .ok (.aload_n 2, 1) := by decide +kernel
theorem d_M_newSheet_42 : decode b_M_newSheet 42 = .ok (.iconst 1, 1) := by decide +kernel
theorem d_M_newSheet_43 : decode b_M_newSheet 43 = .ok (.putfield 59, 3) := by decide +kernel
theorem d_M_newSheet_46 : decode b_M_newSheet 46 = .ok (.aload_n 2, 1) := by decide +kernel
theorem d_M_newSheet_47 : decode b_M_newSheet 47 = .ok (.areturn, 1) := by decide +kernel
theorem d_M_layInFrame_0 : decode b_M_layInFrame 0 = .ok (.aload_n 0, 1) := by decide +kernel
theorem d_M_layInFrame_1 : decode b_M_layInFrame 1 = .ok (.invokevirtual 88, 3) := by decide +kernel
theorem d_M_layInFrame_4 : decode b_M_layInFrame 4 = .ok (.istore_n 2, 1) := by decide +kernel
theorem d_M_layInFrame_5 : decode b_M_layInFrame 5 = .ok (.aload_n 0, 1) := by decide +kernel
theorem d_M_layInFrame_6 : decode b_M_layInFrame 6 = .ok (.getfield 17, 3) := by decide +kernel
theorem d_M_layInFrame_9 : decode b_M_layInFrame 9 = .ok (.iload_n 2, 1) := by decide +kernel
theorem d_M_layInFrame_10 : decode b_M_layInFrame 10 = .ok (.aaload, 1) := by decide +kernel
theorem d_M_layInFrame_11 : decode b_M_layInFrame 11 = .ok (.ifnull 13, 3) := by decide +kernel
theorem d_M_layInFrame_14 : decode b_M_layInFrame 14 = .ok (.aload_n 0, 1) := by decide +kernel
theorem d_M_layInFrame_15 : decode b_M_layInFrame 15 = .ok (.aload_n 0, 1) := by decide +kernel
theorem d_M_layInFrame_16 : decode b_M_layInFrame 16 = .ok (.getfield 17, 3) := by decide +kernel
theorem d_M_layInFrame_19 : decode b_M_layInFrame 19 = .ok (.iload_n 2, 1) := by decide +kernel
theorem d_M_layInFrame_20 : decode b_M_layInFrame 20 = .ok (.aaload, 1) := by decide +kernel
theorem d_M_layInFrame_21 : decode b_M_layInFrame 21 = .ok (.invokevirtual 92, 3) := by decide +kernel
theorem d_M_layInFrame_24 : decode b_M_layInFrame 24 = .ok (.aload_n 0, 1) := by decide +kernel
theorem d_M_layInFrame_25 : decode b_M_layInFrame 25 = .ok (.getfield 17, 3) := by decide +kernel
theorem d_M_layInFrame_28 : decode b_M_layInFrame 28 = .ok (.iload_n 2, 1) := by decide +kernel
theorem d_M_layInFrame_29 : decode b_M_layInFrame 29 = .ok (.aload_n 1, 1) := by decide +kernel
theorem d_M_layInFrame_30 : decode b_M_layInFrame 30 = .ok (.aastore, 1) := by decide +kernel
theorem d_M_layInFrame_31 : decode b_M_layInFrame 31 = .ok (.aload_n 1, 1) := by decide +kernel
theorem d_M_layInFrame_32 : decode b_M_layInFrame 32 = .ok (.iload_n 2, 1) := by decide +kernel
theorem d_M_layInFrame_33 : decode b_M_layInFrame 33 = .ok (.putfield 41, 3) := by decide +kernel
theorem d_M_layInFrame_36 : decode b_M_layInFrame 36 = .ok (.return_, 1) := by decide +kernel
theorem d_M_chooseFrame_0 : decode b_M_chooseFrame 0 = .ok (.iconst 0, 1) := by decide +kernel
theorem d_M_chooseFrame_1 : decode b_M_chooseFrame 1 = .ok (.istore_n 1, 1) := by decide +kernel
theorem d_M_chooseFrame_2 : decode b_M_chooseFrame 2 = .ok (.iload_n 1, 1) := by decide +kernel
theorem d_M_chooseFrame_3 : decode b_M_chooseFrame 3 = .ok (.bipush 6, 2) := by decide +kernel
theorem d_M_chooseFrame_5 : decode b_M_chooseFrame 5 = .ok (.if_icmp .ge 20, 3) := by decide +kernel
theorem d_M_chooseFrame_8 : decode b_M_chooseFrame 8 = .ok (.aload_n 0, 1) := by decide +kernel
theorem d_M_chooseFrame_9 : decode b_M_chooseFrame 9 = .ok (.getfield 17, 3) := by decide +kernel
theorem d_M_chooseFrame_12 : decode b_M_chooseFrame 12 = .ok (.iload_n 1, 1) := by decide +kernel
theorem d_M_chooseFrame_13 : decode b_M_chooseFrame 13 = .ok (.aaload, 1) := by decide +kernel
theorem d_M_chooseFrame_14 : decode b_M_chooseFrame 14 = .ok (.ifnonnull 5, 3) := by decide +kernel
theorem d_M_chooseFrame_17 : decode b_M_chooseFrame 17 = .ok (.iload_n 1, 1) := by decide +kernel
theorem d_M_chooseFrame_18 : decode b_M_chooseFrame 18 = .ok (.ireturn, 1) := by decide +kernel
theorem d_M_chooseFrame_19 : decode b_M_chooseFrame 19 = .ok (.iinc 1 1, 3) := by decide +kernel
theorem d_M_chooseFrame_22 : decode b_M_chooseFrame 22 = .ok (.goto (-20), 3) := by decide +kernel
theorem d_M_chooseFrame_25 : decode b_M_chooseFrame 25 = .ok (.iconst 0, 1) := by decide +kernel
theorem d_M_chooseFrame_26 : decode b_M_chooseFrame 26 = .ok (.istore_n 1, 1) := by decide +kernel
theorem d_M_chooseFrame_27 : decode b_M_chooseFrame 27 = .ok (.iload_n 1, 1) := by decide +kernel
theorem d_M_chooseFrame_28 : decode b_M_chooseFrame 28 = .ok (.bipush 6, 2) := by decide +kernel
theorem d_M_chooseFrame_30 : decode b_M_chooseFrame 30 = .ok (.if_icmp .ge 50, 3) := by decide +kernel
theorem d_M_chooseFrame_33 : decode b_M_chooseFrame 33 = .ok (.aload_n 0, 1) := by decide +kernel
theorem d_M_chooseFrame_34 : decode b_M_chooseFrame 34 = .ok (.getfield 17, 3) := by decide +kernel
theorem d_M_chooseFrame_37 : decode b_M_chooseFrame 37 = .ok (.aload_n 0, 1) := by decide +kernel
theorem d_M_chooseFrame_38 : decode b_M_chooseFrame 38 = .ok (.getfield 95, 3) := by decide +kernel
theorem d_M_chooseFrame_41 : decode b_M_chooseFrame 41 = .ok (.aaload, 1) := by decide +kernel
theorem d_M_chooseFrame_42 : decode b_M_chooseFrame 42 = .ok (.getfield 66, 3) := by decide +kernel
theorem d_M_chooseFrame_45 : decode b_M_chooseFrame 45 = .ok (.ifCond .eq 35, 3) := by decide +kernel
theorem d_M_chooseFrame_48 : decode b_M_chooseFrame 48 = .ok (.aload_n 0, 1) := by decide +kernel
theorem d_M_chooseFrame_49 : decode b_M_chooseFrame 49 = .ok (.getfield 17, 3) := by decide +kernel
theorem d_M_chooseFrame_52 : decode b_M_chooseFrame 52 = .ok (.aload_n 0, 1) := by decide +kernel
theorem d_M_chooseFrame_53 : decode b_M_chooseFrame 53 = .ok (.getfield 95, 3) := by decide +kernel
theorem d_M_chooseFrame_56 : decode b_M_chooseFrame 56 = .ok (.aaload, 1) := by decide +kernel
theorem d_M_chooseFrame_57 : decode b_M_chooseFrame 57 = .ok (.iconst 0, 1) := by decide +kernel
theorem d_M_chooseFrame_58 : decode b_M_chooseFrame 58 = .ok (.putfield 66, 3) := by decide +kernel
theorem d_M_chooseFrame_61 : decode b_M_chooseFrame 61 = .ok (.aload_n 0, 1) := by decide +kernel
theorem d_M_chooseFrame_62 : decode b_M_chooseFrame 62 = .ok (.aload_n 0, 1) := by decide +kernel
theorem d_M_chooseFrame_63 : decode b_M_chooseFrame 63 = .ok (.getfield 95, 3) := by decide +kernel
theorem d_M_chooseFrame_66 : decode b_M_chooseFrame 66 = .ok (.iconst 1, 1) := by decide +kernel
theorem d_M_chooseFrame_67 : decode b_M_chooseFrame 67 = .ok (.iadd, 1) := by decide +kernel
theorem d_M_chooseFrame_68 : decode b_M_chooseFrame 68 = .ok (.bipush 6, 2) := by decide +kernel
theorem d_M_chooseFrame_70 : decode b_M_chooseFrame 70 = .ok (.irem, 1) := by decide +kernel
theorem d_M_chooseFrame_71 : decode b_M_chooseFrame 71 = .ok (.putfield 95, 3) := by decide +kernel
theorem d_M_chooseFrame_74 : decode b_M_chooseFrame 74 = .ok (.iinc 1 1, 3) := by decide +kernel
theorem d_M_chooseFrame_77 : decode b_M_chooseFrame 77 = .ok (.goto (-50), 3) := by decide +kernel
theorem d_M_chooseFrame_80 : decode b_M_chooseFrame 80 = .ok (.aload_n 0, 1) := by decide +kernel
theorem d_M_chooseFrame_81 : decode b_M_chooseFrame 81 = .ok (.getfield 95, 3) := by decide +kernel
theorem d_M_chooseFrame_84 : decode b_M_chooseFrame 84 = .ok (.istore_n 1, 1) := by decide +kernel
theorem d_M_chooseFrame_85 : decode b_M_chooseFrame 85 = .ok (.aload_n 0, 1) := by decide +kernel
theorem d_M_chooseFrame_86 : decode b_M_chooseFrame 86 = .ok (.aload_n 0, 1) := by decide +kernel
theorem d_M_chooseFrame_87 : decode b_M_chooseFrame 87 = .ok (.getfield 95, 3) := by decide +kernel
theorem d_M_chooseFrame_90 : decode b_M_chooseFrame 90 = .ok (.iconst 1, 1) := by decide +kernel
theorem d_M_chooseFrame_91 : decode b_M_chooseFrame 91 = .ok (.iadd, 1) := by decide +kernel
theorem d_M_chooseFrame_92 : decode b_M_chooseFrame 92 = .ok (.bipush 6, 2) := by decide +kernel
theorem d_M_chooseFrame_94 : decode b_M_chooseFrame 94 = .ok (.irem, 1) := by decide +kernel
theorem d_M_chooseFrame_95 : decode b_M_chooseFrame 95 = .ok (.putfield 95, 3) := by decide +kernel
theorem d_M_chooseFrame_98 : decode b_M_chooseFrame 98 = .ok (.iload_n 1, 1) := by decide +kernel
theorem d_M_chooseFrame_99 : decode b_M_chooseFrame 99 = .ok (.ireturn, 1) := by decide +kernel
theorem d_M_goOut_0 : decode b_M_goOut 0 = .ok (.aload_n 1, 1) := by decide +kernel
theorem d_M_goOut_1 : decode b_M_goOut 1 = .ok (.getfield 70, 3) := by decide +kernel
theorem d_M_goOut_4 : decode b_M_goOut 4 = .ok (.ifCond .eq 45, 3) := by decide +kernel
theorem d_M_goOut_7 : decode b_M_goOut 7 = .ok (.aload_n 1, 1) := by decide +kernel
theorem d_M_goOut_8 : decode b_M_goOut 8 = .ok (.getfield 49, 3) := by decide +kernel
theorem d_M_goOut_11 : decode b_M_goOut 11 = .ok (.bipush (-2), 2) := by decide +kernel
theorem d_M_goOut_13 : decode b_M_goOut 13 = .ok (.if_icmp .ne 21, 3) := by decide +kernel
theorem d_M_goOut_16 : decode b_M_goOut 16 = .ok (.aload_n 1, 1) := by decide +kernel
theorem d_M_goOut_17 : decode b_M_goOut 17 = .ok (.aload_n 0, 1) := by decide +kernel
theorem d_M_goOut_18 : decode b_M_goOut 18 = .ok (.invokevirtual 98, 3) := by decide +kernel
theorem d_M_goOut_21 : decode b_M_goOut 21 = .ok (.putfield 49, 3) := by decide +kernel
theorem d_M_goOut_24 : decode b_M_goOut 24 = .ok (.aload_n 0, 1) := by decide +kernel
theorem d_M_goOut_25 : decode b_M_goOut 25 = .ok (.getfield 20, 3) := by decide +kernel
theorem d_M_goOut_28 : decode b_M_goOut 28 = .ok (.aload_n 1, 1) := by decide +kernel
theorem d_M_goOut_29 : decode b_M_goOut 29 = .ok (.getfield 49, 3) := by decide +kernel
theorem d_M_goOut_32 : decode b_M_goOut 32 = .ok (.aload_n 1, 1) := by decide +kernel
theorem d_M_goOut_33 : decode b_M_goOut 33 = .ok (.aastore, 1) := by decide +kernel
theorem d_M_goOut_34 : decode b_M_goOut 34 = .ok (.aload_n 0, 1) := by decide +kernel
theorem d_M_goOut_35 : decode b_M_goOut 35 = .ok (.dup, 1) := by decide +kernel
theorem d_M_goOut_36 : decode b_M_goOut 36 = .ok (.getfield 101, 3) := by decide +kernel
theorem d_M_goOut_39 : decode b_M_goOut 39 = .ok (.iconst 1, 1) := by decide +kernel
theorem d_M_goOut_40 : decode b_M_goOut 40 = .ok (.iadd, 1) := by decide +kernel
theorem d_M_goOut_41 : decode b_M_goOut 41 = .ok (.putfield 101, 3) := by decide +kernel
theorem d_M_goOut_44 : decode b_M_goOut 44 = .ok (.aload_n 1, 1) := by decide +kernel
theorem d_M_goOut_45 : decode b_M_goOut 45 = .ok (.iconst 0, 1) := by decide +kernel
theorem d_M_goOut_46 : decode b_M_goOut 46 = .ok (.putfield 70, 3) := by decide +kernel
theorem d_M_goOut_49 : decode b_M_goOut 49 = .ok (.aload_n 0, 1) := by decide +kernel
theorem d_M_goOut_50 : decode b_M_goOut 50 = .ok (.getfield 17, 3) := by decide +kernel
theorem d_M_goOut_53 : decode b_M_goOut 53 = .ok (.aload_n 1, 1) := by decide +kernel
theorem d_M_goOut_54 : decode b_M_goOut 54 = .ok (.getfield 41, 3) := by decide +kernel
theorem d_M_goOut_57 : decode b_M_goOut 57 = .ok (.aconst_null, 1) := by decide +kernel
theorem d_M_goOut_58 : decode b_M_goOut 58 = .ok (.aastore, 1) := by decide +kernel
theorem d_M_goOut_59 : decode b_M_goOut 59 = .ok (.aload_n 1, 1) := by decide +kernel
theorem d_M_goOut_60 : decode b_M_goOut 60 = .ok (.bipush (-2), 2) := by decide +kernel
theorem d_M_goOut_62 : decode b_M_goOut 62 = .ok (.putfield 41, 3) := by decide +kernel
theorem d_M_goOut_65 : decode b_M_goOut 65 = .ok (.return_, 1) := by decide +kernel
theorem d_M_leastFreeSlot_0 : decode b_M_leastFreeSlot 0 = .ok (.iconst 0, 1) := by decide +kernel
theorem d_M_leastFreeSlot_1 : decode b_M_leastFreeSlot 1 = .ok (.istore_n 1, 1) := by decide +kernel
theorem d_M_leastFreeSlot_2 : decode b_M_leastFreeSlot 2 = .ok (.iload_n 1, 1) := by decide +kernel
theorem d_M_leastFreeSlot_3 : decode b_M_leastFreeSlot 3 = .ok (.bipush 31, 2) := by decide +kernel
theorem d_M_leastFreeSlot_5 : decode b_M_leastFreeSlot 5 = .ok (.if_icmp .ge 18, 3) := by decide +kernel
theorem d_M_leastFreeSlot_8 : decode b_M_leastFreeSlot 8 = .ok (.aload_n 0, 1) := by decide +kernel
theorem d_M_leastFreeSlot_9 : decode b_M_leastFreeSlot 9 = .ok (.getfield 20, 3) := by decide +kernel
theorem d_M_leastFreeSlot_12 : decode b_M_leastFreeSlot 12 = .ok (.iload_n 1, 1) := by decide +kernel
theorem d_M_leastFreeSlot_13 : decode b_M_leastFreeSlot 13 = .ok (.aaload, 1) := by decide +kernel
theorem d_M_leastFreeSlot_14 : decode b_M_leastFreeSlot 14 = .ok (.ifnull 9, 3) := by decide +kernel
theorem d_M_leastFreeSlot_17 : decode b_M_leastFreeSlot 17 = .ok (.iinc 1 1, 3) := by decide +kernel
theorem d_M_leastFreeSlot_20 : decode b_M_leastFreeSlot 20 = .ok (.goto (-18), 3) := by decide +kernel
theorem d_M_leastFreeSlot_23 : decode b_M_leastFreeSlot 23 = .ok (.iload_n 1, 1) := by decide +kernel
theorem d_M_leastFreeSlot_24 : decode b_M_leastFreeSlot 24 = .ok (.ireturn, 1) := by decide +kernel
theorem d_M_copyOf_0 : decode b_M_copyOf 0 = .ok (.aload_n 0, 1) := by decide +kernel
theorem d_M_copyOf_1 : decode b_M_copyOf 1 = .ok (.invokevirtual 37, 3) := by decide +kernel
theorem d_M_copyOf_4 : decode b_M_copyOf 4 = .ok (.astore_n 2, 1) := by decide +kernel
theorem d_M_copyOf_5 : decode b_M_copyOf 5 = .ok (.aload_n 1, 1) := by decide +kernel
theorem d_M_copyOf_6 : decode b_M_copyOf 6 = .ok (.getfield 28, 3) := by decide +kernel
theorem d_M_copyOf_9 : decode b_M_copyOf 9 = .ok (.iconst 0, 1) := by decide +kernel
theorem d_M_copyOf_10 : decode b_M_copyOf 10 = .ok (.aload_n 2, 1) := by decide +kernel
theorem d_M_copyOf_11 : decode b_M_copyOf 11 = .ok (.getfield 28, 3) := by decide +kernel
theorem d_M_copyOf_14 : decode b_M_copyOf 14 = .ok (.iconst 0, 1) := by decide +kernel
theorem d_M_copyOf_15 : decode b_M_copyOf 15 = .ok (.bipush 8, 2) := by decide +kernel
theorem d_M_copyOf_17 : decode b_M_copyOf 17 = .ok (.invokestatic 79, 3) := by decide +kernel
theorem d_M_copyOf_20 : decode b_M_copyOf 20 = .ok (.aload_n 1, 1) := by decide +kernel
theorem d_M_copyOf_21 : decode b_M_copyOf 21 = .ok (.dup, 1) := by decide +kernel
theorem d_M_copyOf_22 : decode b_M_copyOf 22 = .ok (.getfield 59, 3) := by decide +kernel
theorem d_M_copyOf_25 : decode b_M_copyOf 25 = .ok (.iconst 1, 1) := by decide +kernel
theorem d_M_copyOf_26 : decode b_M_copyOf 26 = .ok (.isub, 1) := by decide +kernel
theorem d_M_copyOf_27 : decode b_M_copyOf 27 = .ok (.putfield 59, 3) := by decide +kernel
theorem d_M_copyOf_30 : decode b_M_copyOf 30 = .ok (.aload_n 0, 1) := by decide +kernel
theorem d_M_copyOf_31 : decode b_M_copyOf 31 = .ok (.dup, 1) := by decide +kernel
theorem d_M_copyOf_32 : decode b_M_copyOf 32 = .ok (.getfield 85, 3) := by decide +kernel
theorem d_M_copyOf_35 : decode b_M_copyOf 35 = .ok (.iconst 1, 1) := by decide +kernel
theorem d_M_copyOf_36 : decode b_M_copyOf 36 = .ok (.iadd, 1) := by decide +kernel
theorem d_M_copyOf_37 : decode b_M_copyOf 37 = .ok (.putfield 85, 3) := by decide +kernel
theorem d_M_copyOf_40 : decode b_M_copyOf 40 = .ok (.aload_n 2, 1) := by decide +kernel
theorem d_M_copyOf_41 : decode b_M_copyOf 41 = .ok (.areturn, 1) := by decide +kernel
