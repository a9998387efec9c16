-- ===== decode rows =====
theorem d_BM_init_0 : decode b_BM_init 0 = .ok (.aload_n 0, 1) := by decide +kernel
theorem d_BM_init_1 : decode b_BM_init 1 = .ok (.invokespecial 1, 3) := by decide +kernel
theorem d_BM_init_4 : decode b_BM_init 4 = .ok (.aload_n 0, 1) := by decide +kernel
theorem d_BM_init_5 : decode b_BM_init 5 = .ok (.new 7, 3) := by decide +kernel
theorem d_BM_init_8 : decode b_BM_init 8 = .ok (.dup, 1) := by decide +kernel
theorem d_BM_init_9 : decode b_BM_init 9 = .ok (.iconst 1, 1) := by decide +kernel
theorem d_BM_init_10 : decode b_BM_init 10 = .ok (.iload_n 1, 1) := by decide +kernel
theorem d_BM_init_11 : decode b_BM_init 11 = .ok (.iconst 1, 1) := by decide +kernel
theorem d_BM_init_12 : decode b_BM_init 12 = .ok (.isub, 1) := by decide +kernel
theorem d_BM_init_13 : decode b_BM_init 13 = .ok (.iconst 4, 1) := by decide +kernel
theorem d_BM_init_14 : decode b_BM_init 14 = .ok (.invokestatic 9, 3) := by decide +kernel
theorem d_BM_init_17 : decode b_BM_init 17 = .ok (.iadd, 1) := by decide +kernel
theorem d_BM_init_18 : decode b_BM_init 18 = .ok (.invokespecial 15, 3) := by decide +kernel
theorem d_BM_init_21 : decode b_BM_init 21 = .ok (.putfield 18, 3) := by decide +kernel
theorem d_BM_init_24 : decode b_BM_init 24 = .ok (.aload_n 0, 1) := by decide +kernel
theorem d_BM_init_25 : decode b_BM_init 25 = .ok (.new 24, 3) := by decide +kernel
theorem d_BM_init_28 : decode b_BM_init 28 = .ok (.dup, 1) := by decide +kernel
theorem d_BM_init_29 : decode b_BM_init 29 = .ok (.aload_n 0, 1) := by decide +kernel
theorem d_BM_init_30 : decode b_BM_init 30 = .ok (.getfield 18, 3) := by decide +kernel
theorem d_BM_init_33 : decode b_BM_init 33 = .ok (.invokespecial 26, 3) := by decide +kernel
theorem d_BM_init_36 : decode b_BM_init 36 = .ok (.putfield 29, 3) := by decide +kernel
theorem d_BM_init_39 : decode b_BM_init 39 = .ok (.aload_n 0, 1) := by decide +kernel
theorem d_BM_init_40 : decode b_BM_init 40 = .ok (.new 33, 3) := by decide +kernel
theorem d_BM_init_43 : decode b_BM_init 43 = .ok (.dup, 1) := by decide +kernel
theorem d_BM_init_44 : decode b_BM_init 44 = .ok (.aload_n 0, 1) := by decide +kernel
theorem d_BM_init_45 : decode b_BM_init 45 = .ok (.getfield 18, 3) := by decide +kernel
theorem d_BM_init_48 : decode b_BM_init 48 = .ok (.invokespecial 35, 3) := by decide +kernel
theorem d_BM_init_51 : decode b_BM_init 51 = .ok (.putfield 36, 3) := by decide +kernel
theorem d_BM_init_54 : decode b_BM_init 54 = .ok (.return_, 1) := by decide +kernel
theorem d_Math_floorMod_0 : decode b_Math_floorMod 0 = .ok (.iload_n 0, 1) := by decide +kernel
theorem d_Math_floorMod_1 : decode b_Math_floorMod 1 = .ok (.iload_n 1, 1) := by decide +kernel
theorem d_Math_floorMod_2 : decode b_Math_floorMod 2 = .ok (.irem, 1) := by decide +kernel
theorem d_Math_floorMod_3 : decode b_Math_floorMod 3 = .ok (.istore_n 2, 1) := by decide +kernel
theorem d_Math_floorMod_4 : decode b_Math_floorMod 4 = .ok (.iload_n 0, 1) := by decide +kernel
theorem d_Math_floorMod_5 : decode b_Math_floorMod 5 = .ok (.iload_n 1, 1) := by decide +kernel
theorem d_Math_floorMod_6 : decode b_Math_floorMod 6 = .ok (.ixor, 1) := by decide +kernel
theorem d_Math_floorMod_7 : decode b_Math_floorMod 7 = .ok (.ifCond .ge 11, 3) := by decide +kernel
theorem d_Math_floorMod_10 : decode b_Math_floorMod 10 = .ok (.iload_n 2, 1) := by decide +kernel
theorem d_Math_floorMod_11 : decode b_Math_floorMod 11 = .ok (.ifCond .eq 7, 3) := by decide +kernel
theorem d_Math_floorMod_14 : decode b_Math_floorMod 14 = .ok (.iload_n 2, 1) := by decide +kernel
theorem d_Math_floorMod_15 : decode b_Math_floorMod 15 = .ok (.iload_n 1, 1) := by decide +kernel
theorem d_Math_floorMod_16 : decode b_Math_floorMod 16 = .ok (.iadd, 1) := by decide +kernel
theorem d_Math_floorMod_17 : decode b_Math_floorMod 17 = .ok (.ireturn, 1) := by decide +kernel
theorem d_Math_floorMod_18 : decode b_Math_floorMod 18 = .ok (.iload_n 2, 1) := by decide +kernel
theorem d_Math_floorMod_19 : decode b_Math_floorMod 19 = .ok (.ireturn, 1) := by decide +kernel
theorem d_BM_length_0 : decode b_BM_length 0 = .ok (.aload_n 0, 1) := by decide +kernel
theorem d_BM_length_1 : decode b_BM_length 1 = .ok (.getfield 29, 3) := by decide +kernel
theorem d_BM_length_4 : decode b_BM_length 4 = .ok (.getfield 110, 3) := by decide +kernel
theorem d_BM_length_7 : decode b_BM_length 7 = .ok (.ireturn, 1) := by decide +kernel
theorem d_BM_clear_0 : decode b_BM_clear 0 = .ok (.aload_n 0, 1) := by decide +kernel
theorem d_BM_clear_1 : decode b_BM_clear 1 = .ok (.getfield 29, 3) := by decide +kernel
theorem d_BM_clear_4 : decode b_BM_clear 4 = .ok (.getfield 125, 3) := by decide +kernel
theorem d_BM_clear_7 : decode b_BM_clear 7 = .ok (.ireturn, 1) := by decide +kernel
theorem d_BM_seen_0 : decode b_BM_seen 0 = .ok (.aload_n 0, 1) := by decide +kernel
theorem d_BM_seen_1 : decode b_BM_seen 1 = .ok (.getfield 29, 3) := by decide +kernel
theorem d_BM_seen_4 : decode b_BM_seen 4 = .ok (.getfield 128, 3) := by decide +kernel
theorem d_BM_seen_7 : decode b_BM_seen 7 = .ok (.ireturn, 1) := by decide +kernel
theorem d_BM_begin_0 : decode b_BM_begin 0 = .ok (.aload_n 0, 1) := by decide +kernel
theorem d_BM_begin_1 : decode b_BM_begin 1 = .ok (.getfield 36, 3) := by decide +kernel
theorem d_BM_begin_4 : decode b_BM_begin 4 = .ok (.invokevirtual 136, 3) := by decide +kernel
theorem d_BM_begin_7 : decode b_BM_begin 7 = .ok (.return_, 1) := by decide +kernel
theorem d_BM_cycle_0 : decode b_BM_cycle 0 = .ok (.aload_n 0, 1) := by decide +kernel
theorem d_BM_cycle_1 : decode b_BM_cycle 1 = .ok (.getfield 36, 3) := by decide +kernel
theorem d_BM_cycle_4 : decode b_BM_cycle 4 = .ok (.iload_n 1, 1) := by decide +kernel
theorem d_BM_cycle_5 : decode b_BM_cycle 5 = .ok (.invokevirtual 139, 3) := by decide +kernel
theorem d_BM_cycle_8 : decode b_BM_cycle 8 = .ok (.ireturn, 1) := by decide +kernel
theorem d_BM_replay_0 : decode b_BM_replay 0 = .ok (.aload_n 0, 1) := by decide +kernel
theorem d_BM_replay_1 : decode b_BM_replay 1 = .ok (.getfield 29, 3) := by decide +kernel
theorem d_BM_replay_4 : decode b_BM_replay 4 = .ok (.getfield 110, 3) := by decide +kernel
theorem d_BM_replay_7 : decode b_BM_replay 7 = .ok (.iconst (-1), 1) := by decide +kernel
theorem d_BM_replay_8 : decode b_BM_replay 8 = .ok (.if_icmp .ne 5, 3) := by decide +kernel
theorem d_BM_replay_11 : decode b_BM_replay 11 = .ok (.iconst (-1), 1) := by decide +kernel
theorem d_BM_replay_12 : decode b_BM_replay 12 = .ok (.ireturn, 1) := by decide +kernel
theorem d_BM_replay_13 : decode b_BM_replay 13 = .ok (.aload_n 0, 1) := by decide +kernel
theorem d_BM_replay_14 : decode b_BM_replay 14 = .ok (.getfield 36, 3) := by decide +kernel
theorem d_BM_replay_17 : decode b_BM_replay 17 = .ok (.invokevirtual 136, 3) := by decide +kernel
theorem d_BM_replay_20 : decode b_BM_replay 20 = .ok (.iconst (-1), 1) := by decide +kernel
theorem d_BM_replay_21 : decode b_BM_replay 21 = .ok (.istore_n 1, 1) := by decide +kernel
theorem d_BM_replay_22 : decode b_BM_replay 22 = .ok (.iconst 0, 1) := by decide +kernel
theorem d_BM_replay_23 : decode b_BM_replay 23 = .ok (.istore_n 2, 1) := by decide +kernel
theorem d_BM_replay_24 : decode b_BM_replay 24 = .ok (.iload_n 2, 1) := by decide +kernel
theorem d_BM_replay_25 : decode b_BM_replay 25 = .ok (.aload_n 0, 1) := by decide +kernel
theorem d_BM_replay_26 : decode b_BM_replay 26 = .ok (.getfield 29, 3) := by decide +kernel
theorem d_BM_replay_29 : decode b_BM_replay 29 = .ok (.getfield 110, 3) := by decide +kernel
theorem d_BM_replay_32 : decode b_BM_replay 32 = .ok (.if_icmp .ge 36, 3) := by decide +kernel
theorem d_BM_replay_35 : decode b_BM_replay 35 = .ok (.aload_n 0, 1) := by decide +kernel
theorem d_BM_replay_36 : decode b_BM_replay 36 = .ok (.getfield 36, 3) := by decide +kernel
theorem d_BM_replay_39 : decode b_BM_replay 39 = .ok (.aload_n 0, 1) := by decide +kernel
theorem d_BM_replay_40 : decode b_BM_replay 40 = .ok (.getfield 29, 3) := by decide +kernel
theorem d_BM_replay_43 : decode b_BM_replay 43 = .ok (.iload_n 2, 1) := by decide +kernel
theorem d_BM_replay_44 : decode b_BM_replay 44 = .ok (.invokevirtual 121, 3) := by decide +kernel
theorem d_BM_replay_47 : decode b_BM_replay 47 = .ok (.invokevirtual 139, 3) := by decide +kernel
theorem d_BM_replay_50 : decode b_BM_replay 50 = .ok (.istore_n 3, 1) := by decide +kernel
theorem d_BM_replay_51 : decode b_BM_replay 51 = .ok (.iload_n 3, 1) := by decide +kernel
theorem d_BM_replay_52 : decode b_BM_replay 52 = .ok (.ifCond .eq 10, 3) := by decide +kernel
theorem d_BM_replay_55 : decode b_BM_replay 55 = .ok (.iload_n 1, 1) := by decide +kernel
theorem d_BM_replay_56 : decode b_BM_replay 56 = .ok (.iconst (-1), 1) := by decide +kernel
theorem d_BM_replay_57 : decode b_BM_replay 57 = .ok (.if_icmp .ne 5, 3) := by decide +kernel
theorem d_BM_replay_60 : decode b_BM_replay 60 = .ok (.iload_n 2, 1) := by decide +kernel
theorem d_BM_replay_61 : decode b_BM_replay 61 = .ok (.istore_n 1, 1) := by decide +kernel
theorem d_BM_replay_62 : decode b_BM_replay 62 = .ok (.iinc 2 1, 3) := by decide +kernel
theorem d_BM_replay_65 : decode b_BM_replay 65 = .ok (.goto (-41), 3) := by decide +kernel
theorem d_BM_replay_68 : decode b_BM_replay 68 = .ok (.iload_n 1, 1) := by decide +kernel
theorem d_BM_replay_69 : decode b_BM_replay 69 = .ok (.ireturn, 1) := by decide +kernel
theorem d_BM_count_0 : decode b_BM_count 0 = .ok (.iload_n 1, 1) := by decide +kernel
theorem d_BM_count_1 : decode b_BM_count 1 = .ok (.tableswitch 119 0 7 #[47, 55, 63, 79, 87, 95, 103, 111], 47) := by decide +kernel
theorem d_BM_count_48 : decode b_BM_count 48 = .ok (.aload_n 0, 1) := by decide +kernel
theorem d_BM_count_49 : decode b_BM_count 49 = .ok (.getfield 18, 3) := by decide +kernel
theorem d_BM_count_52 : decode b_BM_count 52 = .ok (.getfield 147, 3) := by decide +kernel
theorem d_BM_count_55 : decode b_BM_count 55 = .ok (.ireturn, 1) := by decide +kernel
theorem d_BM_count_56 : decode b_BM_count 56 = .ok (.aload_n 0, 1) := by decide +kernel
theorem d_BM_count_57 : decode b_BM_count 57 = .ok (.getfield 18, 3) := by decide +kernel
theorem d_BM_count_60 : decode b_BM_count 60 = .ok (.getfield 150, 3) := by decide +kernel
theorem d_BM_count_63 : decode b_BM_count 63 = .ok (.ireturn, 1) := by decide +kernel
theorem d_BM_count_64 : decode b_BM_count 64 = .ok (.aload_n 0, 1) := by decide +kernel
theorem d_BM_count_65 : decode b_BM_count 65 = .ok (.getfield 18, 3) := by decide +kernel
theorem d_BM_count_68 : decode b_BM_count 68 = .ok (.getfield 153, 3) := by decide +kernel
theorem d_BM_count_71 : decode b_BM_count 71 = .ok (.aload_n 0, 1) := by decide +kernel
theorem d_BM_count_72 : decode b_BM_count 72 = .ok (.getfield 18, 3) := by decide +kernel
theorem d_BM_count_75 : decode b_BM_count 75 = .ok (.getfield 156, 3) := by decide +kernel
theorem d_BM_count_78 : decode b_BM_count 78 = .ok (.isub, 1) := by decide +kernel
theorem d_BM_count_79 : decode b_BM_count 79 = .ok (.ireturn, 1) := by decide +kernel
theorem d_BM_count_80 : decode b_BM_count 80 = .ok (.aload_n 0, 1) := by decide +kernel
theorem d_BM_count_81 : decode b_BM_count 81 = .ok (.getfield 18, 3) := by decide +kernel
theorem d_BM_count_84 : decode b_BM_count 84 = .ok (.getfield 156, 3) := by decide +kernel
theorem d_BM_count_87 : decode b_BM_count 87 = .ok (.ireturn, 1) := by decide +kernel
theorem d_BM_count_88 : decode b_BM_count 88 = .ok (.aload_n 0, 1) := by decide +kernel
theorem d_BM_count_89 : decode b_BM_count 89 = .ok (.getfield 18, 3) := by decide +kernel
theorem d_BM_count_92 : decode b_BM_count 92 = .ok (.invokevirtual 159, 3) := by decide +kernel
theorem d_BM_count_95 : decode b_BM_count 95 = .ok (.ireturn, 1) := by decide +kernel
theorem d_BM_count_96 : decode b_BM_count 96 = .ok (.aload_n 0, 1) := by decide +kernel
theorem d_BM_count_97 : decode b_BM_count 97 = .ok (.getfield 18, 3) := by decide +kernel
theorem d_BM_count_100 : decode b_BM_count 100 = .ok (.getfield 101, 3) := by decide +kernel
theorem d_BM_count_103 : decode b_BM_count 103 = .ok (.ireturn, 1) := by decide +kernel
theorem d_BM_count_104 : decode b_BM_count 104 = .ok (.aload_n 0, 1) := by decide +kernel
theorem d_BM_count_105 : decode b_BM_count 105 = .ok (.getfield 36, 3) := by decide +kernel
theorem d_BM_count_108 : decode b_BM_count 108 = .ok (.getfield 163, 3) := by decide +kernel
theorem d_BM_count_111 : decode b_BM_count 111 = .ok (.ireturn, 1) := by decide +kernel
theorem d_BM_count_112 : decode b_BM_count 112 = .ok (.aload_n 0, 1) := by decide +kernel
theorem d_BM_count_113 : decode b_BM_count 113 = .ok (.getfield 36, 3) := by decide +kernel
theorem d_BM_count_116 : decode b_BM_count 116 = .ok (.getfield 166, 3) := by decide +kernel
theorem d_BM_count_119 : decode b_BM_count 119 = .ok (.ireturn, 1) := by decide +kernel
theorem d_BM_count_120 : decode b_BM_count 120 = .ok (.iconst (-1), 1) := by decide +kernel
theorem d_BM_count_121 : decode b_BM_count 121 = .ok (.ireturn, 1) := by decide +kernel
theorem d_BM_state_0 : decode b_BM_state 0 = .ok (.iload_n 1, 1) := by decide +kernel
theorem d_BM_state_1 : decode b_BM_state 1 = .ok (.ifCond .eq 18, 3) := by decide +kernel
theorem d_BM_state_4 : decode b_BM_state 4 = .ok (.iload_n 1, 1) := by decide +kernel
theorem d_BM_state_5 : decode b_BM_state 5 = .ok (.iconst 1, 1) := by decide +kernel
theorem d_BM_state_6 : decode b_BM_state 6 = .ok (.if_icmp .eq 13, 3) := by decide +kernel
theorem d_BM_state_9 : decode b_BM_state 9 = .ok (.new 40, 3) := by decide +kernel
theorem d_BM_state_12 : decode b_BM_state 12 = .ok (.dup, 1) := by decide +kernel
theorem d_BM_state_13 : decode b_BM_state 13 = .ok (.ldc 42, 2) := by decide +kernel
theorem d_BM_state_15 : decode b_BM_state 15 = .ok (.invokespecial 44, 3) := by decide +kernel
theorem d_BM_state_18 : decode b_BM_state 18 = .ok (.athrow, 1) := by decide +kernel
theorem d_BM_state_19 : decode b_BM_state 19 = .ok (.aload_n 0, 1) := by decide +kernel
theorem d_BM_state_20 : decode b_BM_state 20 = .ok (.getfield 18, 3) := by decide +kernel
theorem d_BM_state_23 : decode b_BM_state 23 = .ok (.invokevirtual 47, 3) := by decide +kernel
theorem d_BM_state_26 : decode b_BM_state 26 = .ok (.ifCond .ne 13, 3) := by decide +kernel
theorem d_BM_state_29 : decode b_BM_state 29 = .ok (.aload_n 0, 1) := by decide +kernel
theorem d_BM_state_30 : decode b_BM_state 30 = .ok (.getfield 18, 3) := by decide +kernel
theorem d_BM_state_33 : decode b_BM_state 33 = .ok (.invokevirtual 51, 3) := by decide +kernel
theorem d_BM_state_36 : decode b_BM_state 36 = .ok (.ifCond .eq 13, 3) := by decide +kernel
theorem d_BM_state_39 : decode b_BM_state 39 = .ok (.new 54, 3) := by decide +kernel
theorem d_BM_state_42 : decode b_BM_state 42 = .ok (.dup, 1) := by decide +kernel
theorem d_BM_state_43 : decode b_BM_state 43 = .ok (.ldc 56, 2) := by decide +kernel
theorem d_BM_state_45 : decode b_BM_state 45 = .ok (.invokespecial 58, 3) := by decide +kernel
theorem d_BM_state_48 : decode b_BM_state 48 = .ok (.athrow, 1) := by decide +kernel
theorem d_BM_state_49 : decode b_BM_state 49 = .ok (.aload_n 0, 1) := by decide +kernel
theorem d_BM_state_50 : decode b_BM_state 50 = .ok (.getfield 18, 3) := by decide +kernel
theorem d_BM_state_53 : decode b_BM_state 53 = .ok (.iload_n 1, 1) := by decide +kernel
theorem d_BM_state_54 : decode b_BM_state 54 = .ok (.iload_n 2, 1) := by decide +kernel
theorem d_BM_state_55 : decode b_BM_state 55 = .ok (.invokevirtual 59, 3) := by decide +kernel
theorem d_BM_state_58 : decode b_BM_state 58 = .ok (.istore_n 3, 1) := by decide +kernel
theorem d_BM_state_59 : decode b_BM_state 59 = .ok (.aload_n 0, 1) := by decide +kernel
theorem d_BM_state_60 : decode b_BM_state 60 = .ok (.invokevirtual 63, 3) := by decide +kernel
theorem d_BM_state_63 : decode b_BM_state 63 = .ok (.iload_n 3, 1) := by decide +kernel
theorem d_BM_state_64 : decode b_BM_state 64 = .ok (.ireturn, 1) := by decide +kernel
theorem d_BM_startAnew_0 : decode b_BM_startAnew 0 = .ok (.aload_n 0, 1) := by decide +kernel
theorem d_BM_startAnew_1 : decode b_BM_startAnew 1 = .ok (.getfield 29, 3) := by decide +kernel
theorem d_BM_startAnew_4 : decode b_BM_startAnew 4 = .ok (.invokevirtual 169, 3) := by decide +kernel
theorem d_BM_startAnew_7 : decode b_BM_startAnew 7 = .ok (.aload_n 0, 1) := by decide +kernel
theorem d_BM_startAnew_8 : decode b_BM_startAnew 8 = .ok (.getfield 36, 3) := by decide +kernel
theorem d_BM_startAnew_11 : decode b_BM_startAnew 11 = .ok (.invokevirtual 136, 3) := by decide +kernel
theorem d_BM_startAnew_14 : decode b_BM_startAnew 14 = .ok (.return_, 1) := by decide +kernel
theorem d_BM_gate_0 : decode b_BM_gate 0 = .ok (.aload_n 0, 1) := by decide +kernel
theorem d_BM_gate_1 : decode b_BM_gate 1 = .ok (.getfield 18, 3) := by decide +kernel
theorem d_BM_gate_4 : decode b_BM_gate 4 = .ok (.iload_n 1, 1) := by decide +kernel
theorem d_BM_gate_5 : decode b_BM_gate 5 = .ok (.iload_n 2, 1) := by decide +kernel
theorem d_BM_gate_6 : decode b_BM_gate 6 = .ok (.iload_n 3, 1) := by decide +kernel
theorem d_BM_gate_7 : decode b_BM_gate 7 = .ok (.invokevirtual 66, 3) := by decide +kernel
theorem d_BM_gate_10 : decode b_BM_gate 10 = .ok (.ifCond .ne 13, 3) := by decide +kernel
theorem d_BM_gate_13 : decode b_BM_gate 13 = .ok (.new 40, 3) := by decide +kernel
theorem d_BM_gate_16 : decode b_BM_gate 16 = .ok (.dup, 1) := by decide +kernel
theorem d_BM_gate_17 : decode b_BM_gate 17 = .ok (.ldc 70, 2) := by decide +kernel
theorem d_BM_gate_19 : decode b_BM_gate 19 = .ok (.invokespecial 44, 3) := by decide +kernel
theorem d_BM_gate_22 : decode b_BM_gate 22 = .ok (.athrow, 1) := by decide +kernel
theorem d_BM_gate_23 : decode b_BM_gate 23 = .ok (.aload_n 0, 1) := by decide +kernel
theorem d_BM_gate_24 : decode b_BM_gate 24 = .ok (.getfield 18, 3) := by decide +kernel
theorem d_BM_gate_27 : decode b_BM_gate 27 = .ok (.invokevirtual 51, 3) := by decide +kernel
theorem d_BM_gate_30 : decode b_BM_gate 30 = .ok (.ifCond .eq 13, 3) := by decide +kernel
theorem d_BM_gate_33 : decode b_BM_gate 33 = .ok (.new 54, 3) := by decide +kernel
theorem d_BM_gate_36 : decode b_BM_gate 36 = .ok (.dup, 1) := by decide +kernel
theorem d_BM_gate_37 : decode b_BM_gate 37 = .ok (.ldc 72, 2) := by decide +kernel
theorem d_BM_gate_39 : decode b_BM_gate 39 = .ok (.invokespecial 58, 3) := by decide +kernel
theorem d_BM_gate_42 : decode b_BM_gate 42 = .ok (.athrow, 1) := by decide +kernel
theorem d_BM_gate_43 : decode b_BM_gate 43 = .ok (.aload_n 0, 1) := by decide +kernel
theorem d_BM_gate_44 : decode b_BM_gate 44 = .ok (.getfield 18, 3) := by decide +kernel
theorem d_BM_gate_47 : decode b_BM_gate 47 = .ok (.iload_n 1, 1) := by decide +kernel
theorem d_BM_gate_48 : decode b_BM_gate 48 = .ok (.iload_n 2, 1) := by decide +kernel
theorem d_BM_gate_49 : decode b_BM_gate 49 = .ok (.iload_n 3, 1) := by decide +kernel
theorem d_BM_gate_50 : decode b_BM_gate 50 = .ok (.invokevirtual 74, 3) := by decide +kernel
theorem d_BM_gate_53 : decode b_BM_gate 53 = .ok (.istore 4, 2) := by decide +kernel
theorem d_BM_gate_55 : decode b_BM_gate 55 = .ok (.aload_n 0, 1) := by decide +kernel
theorem d_BM_gate_56 : decode b_BM_gate 56 = .ok (.invokevirtual 63, 3) := by decide +kernel
theorem d_BM_gate_59 : decode b_BM_gate 59 = .ok (.iload 4, 2) := by decide +kernel
theorem d_BM_gate_61 : decode b_BM_gate 61 = .ok (.ireturn, 1) := by decide +kernel
theorem d_BM_next_0 : decode b_BM_next 0 = .ok (.aload_n 0, 1) := by decide +kernel
theorem d_BM_next_1 : decode b_BM_next 1 = .ok (.getfield 18, 3) := by decide +kernel
theorem d_BM_next_4 : decode b_BM_next 4 = .ok (.iload_n 1, 1) := by decide +kernel
theorem d_BM_next_5 : decode b_BM_next 5 = .ok (.invokevirtual 78, 3) := by decide +kernel
theorem d_BM_next_8 : decode b_BM_next 8 = .ok (.ifCond .eq 14, 3) := by decide +kernel
theorem d_BM_next_11 : decode b_BM_next 11 = .ok (.aload_n 0, 1) := by decide +kernel
theorem d_BM_next_12 : decode b_BM_next 12 = .ok (.getfield 18, 3) := by decide +kernel
theorem d_BM_next_15 : decode b_BM_next 15 = .ok (.iload_n 2, 1) := by decide +kernel
theorem d_BM_next_16 : decode b_BM_next 16 = .ok (.invokevirtual 82, 3) := by decide +kernel
theorem d_BM_next_19 : decode b_BM_next 19 = .ok (.ifCond .ne 13, 3) := by decide +kernel
theorem d_BM_next_22 : decode b_BM_next 22 = .ok (.new 40, 3) := by decide +kernel
theorem d_BM_next_25 : decode b_BM_next 25 = .ok (.dup, 1) := by decide +kernel
theorem d_BM_next_26 : decode b_BM_next 26 = .ok (.ldc 85, 2) := by decide +kernel
theorem d_BM_next_28 : decode b_BM_next 28 = .ok (.invokespecial 44, 3) := by decide +kernel
theorem d_BM_next_31 : decode b_BM_next 31 = .ok (.athrow, 1) := by decide +kernel
theorem d_BM_next_32 : decode b_BM_next 32 = .ok (.aload_n 0, 1) := by decide +kernel
theorem d_BM_next_33 : decode b_BM_next 33 = .ok (.getfield 18, 3) := by decide +kernel
theorem d_BM_next_36 : decode b_BM_next 36 = .ok (.iload_n 1, 1) := by decide +kernel
theorem d_BM_next_37 : decode b_BM_next 37 = .ok (.iload_n 2, 1) := by decide +kernel
theorem d_BM_next_38 : decode b_BM_next 38 = .ok (.invokevirtual 87, 3) := by decide +kernel
theorem d_BM_next_41 : decode b_BM_next 41 = .ok (.istore_n 3, 1) := by decide +kernel
theorem d_BM_next_42 : decode b_BM_next 42 = .ok (.aload_n 0, 1) := by decide +kernel
theorem d_BM_next_43 : decode b_BM_next 43 = .ok (.invokevirtual 63, 3) := by decide +kernel
theorem d_BM_next_46 : decode b_BM_next 46 = .ok (.iload_n 3, 1) := by decide +kernel
theorem d_BM_next_47 : decode b_BM_next 47 = .ok (.ireturn, 1) := by decide +kernel
theorem d_BM_compare_0 : decode b_BM_compare 0 = .ok (.aload_n 0, 1) := by decide +kernel
theorem d_BM_compare_1 : decode b_BM_compare 1 = .ok (.getfield 18, 3) := by decide +kernel
theorem d_BM_compare_4 : decode b_BM_compare 4 = .ok (.iload_n 1, 1) := by decide +kernel
theorem d_BM_compare_5 : decode b_BM_compare 5 = .ok (.invokevirtual 82, 3) := by decide +kernel
theorem d_BM_compare_8 : decode b_BM_compare 8 = .ok (.ifCond .eq 14, 3) := by decide +kernel
theorem d_BM_compare_11 : decode b_BM_compare 11 = .ok (.aload_n 0, 1) := by decide +kernel
theorem d_BM_compare_12 : decode b_BM_compare 12 = .ok (.getfield 18, 3) := by decide +kernel
theorem d_BM_compare_15 : decode b_BM_compare 15 = .ok (.iload_n 2, 1) := by decide +kernel
theorem d_BM_compare_16 : decode b_BM_compare 16 = .ok (.invokevirtual 82, 3) := by decide +kernel
theorem d_BM_compare_19 : decode b_BM_compare 19 = .ok (.ifCond .ne 13, 3) := by decide +kernel
theorem d_BM_compare_22 : decode b_BM_compare 22 = .ok (.new 40, 3) := by decide +kernel
theorem d_BM_compare_25 : decode b_BM_compare 25 = .ok (.dup, 1) := by decide +kernel
theorem d_BM_compare_26 : decode b_BM_compare 26 = .ok (.ldc 90, 2) := by decide +kernel
theorem d_BM_compare_28 : decode b_BM_compare 28 = .ok (.invokespecial 44, 3) := by decide +kernel
theorem d_BM_compare_31 : decode b_BM_compare 31 = .ok (.athrow, 1) := by decide +kernel
theorem d_BM_compare_32 : decode b_BM_compare 32 = .ok (.aload_n 0, 1) := by decide +kernel
theorem d_BM_compare_33 : decode b_BM_compare 33 = .ok (.getfield 18, 3) := by decide +kernel
theorem d_BM_compare_36 : decode b_BM_compare 36 = .ok (.invokevirtual 92, 3) := by decide +kernel
theorem d_BM_compare_39 : decode b_BM_compare 39 = .ok (.ifCond .eq 13, 3) := by decide +kernel
theorem d_BM_compare_42 : decode b_BM_compare 42 = .ok (.new 54, 3) := by decide +kernel
theorem d_BM_compare_45 : decode b_BM_compare 45 = .ok (.dup, 1) := by decide +kernel
theorem d_BM_compare_46 : decode b_BM_compare 46 = .ok (.ldc 95, 2) := by decide +kernel
theorem d_BM_compare_48 : decode b_BM_compare 48 = .ok (.invokespecial 58, 3) := by decide +kernel
theorem d_BM_compare_51 : decode b_BM_compare 51 = .ok (.athrow, 1) := by decide +kernel
theorem d_BM_compare_52 : decode b_BM_compare 52 = .ok (.aload_n 0, 1) := by decide +kernel
theorem d_BM_compare_53 : decode b_BM_compare 53 = .ok (.getfield 18, 3) := by decide +kernel
theorem d_BM_compare_56 : decode b_BM_compare 56 = .ok (.iload_n 1, 1) := by decide +kernel
theorem d_BM_compare_57 : decode b_BM_compare 57 = .ok (.iload_n 2, 1) := by decide +kernel
theorem d_BM_compare_58 : decode b_BM_compare 58 = .ok (.invokevirtual 97, 3) := by decide +kernel
theorem d_BM_compare_61 : decode b_BM_compare 61 = .ok (.aload_n 0, 1) := by decide +kernel
theorem d_BM_compare_62 : decode b_BM_compare 62 = .ok (.invokevirtual 63, 3) := by decide +kernel
theorem d_BM_compare_65 : decode b_BM_compare 65 = .ok (.aload_n 0, 1) := by decide +kernel
theorem d_BM_compare_66 : decode b_BM_compare 66 = .ok (.getfield 18, 3) := by decide +kernel
theorem d_BM_compare_69 : decode b_BM_compare 69 = .ok (.getfield 101, 3) := by decide +kernel
theorem d_BM_compare_72 : decode b_BM_compare 72 = .ok (.ireturn, 1) := by decide +kernel
theorem d_BM_search_0 : decode b_BM_search 0 = .ok (.iload_n 1, 1) := by decide +kernel
theorem d_BM_search_1 : decode b_BM_search 1 = .ok (.iconst 1, 1) := by decide +kernel
theorem d_BM_search_2 : decode b_BM_search 2 = .ok (.if_icmp .lt 10, 3) := by decide +kernel
theorem d_BM_search_5 : decode b_BM_search 5 = .ok (.iload_n 1, 1) := by decide +kernel
theorem d_BM_search_6 : decode b_BM_search 6 = .ok (.sipush 20000, 3) := by decide +kernel
theorem d_BM_search_9 : decode b_BM_search 9 = .ok (.if_icmp .le 13, 3) := by decide +kernel
theorem d_BM_search_12 : decode b_BM_search 12 = .ok (.new 40, 3) := by decide +kernel
theorem d_BM_search_15 : decode b_BM_search 15 = .ok (.dup, 1) := by decide +kernel
theorem d_BM_search_16 : decode b_BM_search 16 = .ok (.ldc 105, 2) := by decide +kernel
theorem d_BM_search_18 : decode b_BM_search 18 = .ok (.invokespecial 44, 3) := by decide +kernel
theorem d_BM_search_21 : decode b_BM_search 21 = .ok (.athrow, 1) := by decide +kernel
theorem d_BM_search_22 : decode b_BM_search 22 = .ok (.aload_n 0, 1) := by decide +kernel
theorem d_BM_search_23 : decode b_BM_search 23 = .ok (.getfield 29, 3) := by decide +kernel
theorem d_BM_search_26 : decode b_BM_search 26 = .ok (.iload_n 1, 1) := by decide +kernel
theorem d_BM_search_27 : decode b_BM_search 27 = .ok (.invokevirtual 107, 3) := by decide +kernel
theorem d_BM_search_30 : decode b_BM_search 30 = .ok (.aload_n 0, 1) := by decide +kernel
theorem d_BM_search_31 : decode b_BM_search 31 = .ok (.getfield 29, 3) := by decide +kernel
theorem d_BM_search_34 : decode b_BM_search 34 = .ok (.getfield 110, 3) := by decide +kernel
theorem d_BM_search_37 : decode b_BM_search 37 = .ok (.iconst (-1), 1) := by decide +kernel
theorem d_BM_search_38 : decode b_BM_search 38 = .ok (.if_icmp .eq 5, 3) := by decide +kernel
theorem d_BM_search_41 : decode b_BM_search 41 = .ok (.iconst 0, 1) := by decide +kernel
theorem d_BM_search_42 : decode b_BM_search 42 = .ok (.ireturn, 1) := by decide +kernel
theorem d_BM_search_43 : decode b_BM_search 43 = .ok (.aload_n 0, 1) := by decide +kernel
theorem d_BM_search_44 : decode b_BM_search 44 = .ok (.getfield 29, 3) := by decide +kernel
theorem d_BM_search_47 : decode b_BM_search 47 = .ok (.invokevirtual 113, 3) := by decide +kernel
theorem d_BM_search_50 : decode b_BM_search 50 = .ok (.ifCond .eq 7, 3) := by decide +kernel
theorem d_BM_search_53 : decode b_BM_search 53 = .ok (.iconst 1, 1) := by decide +kernel
theorem d_BM_search_54 : decode b_BM_search 54 = .ok (.goto 4, 3) := by decide +kernel
theorem d_BM_search_57 : decode b_BM_search 57 = .ok (.iconst 2, 1) := by decide +kernel
theorem d_BM_search_58 : decode b_BM_search 58 = .ok (.ireturn, 1) := by decide +kernel
theorem d_Arrs_fill_0 : decode b_Arrs_fill 0 = .ok (.iconst 0, 1) := by decide +kernel
theorem d_Arrs_fill_1 : decode b_Arrs_fill 1 = .ok (.istore_n 2, 1) := by decide +kernel
theorem d_Arrs_fill_2 : decode b_Arrs_fill 2 = .ok (.aload_n 0, 1) := by decide +kernel
theorem d_Arrs_fill_3 : decode b_Arrs_fill 3 = .ok (.arraylength, 1) := by decide +kernel
theorem d_Arrs_fill_4 : decode b_Arrs_fill 4 = .ok (.istore_n 3, 1) := by decide +kernel
theorem d_Arrs_fill_5 : decode b_Arrs_fill 5 = .ok (.iload_n 2, 1) := by decide +kernel
theorem d_Arrs_fill_6 : decode b_Arrs_fill 6 = .ok (.iload_n 3, 1) := by decide +kernel
theorem d_Arrs_fill_7 : decode b_Arrs_fill 7 = .ok (.if_icmp .ge 13, 3) := by decide +kernel
theorem d_Arrs_fill_10 : decode b_Arrs_fill 10 = .ok (.aload_n 0, 1) := by decide +kernel
theorem d_Arrs_fill_11 : decode b_Arrs_fill 11 = .ok (.iload_n 2, 1) := by decide +kernel
theorem d_Arrs_fill_12 : decode b_Arrs_fill 12 = .ok (.iload_n 1, 1) := by decide +kernel
theorem d_Arrs_fill_13 : decode b_Arrs_fill 13 = .ok (.iastore, 1) := by decide +kernel
theorem d_Arrs_fill_14 : decode b_Arrs_fill 14 = .ok (.iinc 2 1, 3) := by decide +kernel
theorem d_Arrs_fill_17 : decode b_Arrs_fill 17 = .ok (.goto (-12), 3) := by decide +kernel
theorem d_Arrs_fill_20 : decode b_Arrs_fill 20 = .ok (.return_, 1) := by decide +kernel
theorem d_BM_word_0 : decode b_BM_word 0 = .ok (.iload_n 1, 1) := by decide +kernel
theorem d_BM_word_1 : decode b_BM_word 1 = .ok (.ifCond .lt 14, 3) := by decide +kernel
theorem d_BM_word_4 : decode b_BM_word 4 = .ok (.iload_n 1, 1) := by decide +kernel
theorem d_BM_word_5 : decode b_BM_word 5 = .ok (.aload_n 0, 1) := by decide +kernel
theorem d_BM_word_6 : decode b_BM_word 6 = .ok (.getfield 29, 3) := by decide +kernel
theorem d_BM_word_9 : decode b_BM_word 9 = .ok (.getfield 110, 3) := by decide +kernel
theorem d_BM_word_12 : decode b_BM_word 12 = .ok (.if_icmp .lt 13, 3) := by decide +kernel
theorem d_BM_word_15 : decode b_BM_word 15 = .ok (.new 116, 3) := by decide +kernel
theorem d_BM_word_18 : decode b_BM_word 18 = .ok (.dup, 1) := by decide +kernel
theorem d_BM_word_19 : decode b_BM_word 19 = .ok (.ldc 118, 2) := by decide +kernel
theorem d_BM_word_21 : decode b_BM_word 21 = .ok (.invokespecial 120, 3) := by decide +kernel
theorem d_BM_word_24 : decode b_BM_word 24 = .ok (.athrow, 1) := by decide +kernel
theorem d_BM_word_25 : decode b_BM_word 25 = .ok (.aload_n 0, 1) := by decide +kernel
theorem d_BM_word_26 : decode b_BM_word 26 = .ok (.getfield 29, 3) := by decide +kernel
theorem d_BM_word_29 : decode b_BM_word 29 = .ok (.iload_n 1, 1) := by decide +kernel
theorem d_BM_word_30 : decode b_BM_word 30 = .ok (.invokevirtual 121, 3) := by decide +kernel
theorem d_BM_word_33 : decode b_BM_word 33 = .ok (.ireturn, 1) := by decide +kernel
theorem d_BM_level_0 : decode b_BM_level 0 = .ok (.iload_n 1, 1) := by decide +kernel
theorem d_BM_level_1 : decode b_BM_level 1 = .ok (.ifCond .lt 14, 3) := by decide +kernel
theorem d_BM_level_4 : decode b_BM_level 4 = .ok (.iload_n 1, 1) := by decide +kernel
theorem d_BM_level_5 : decode b_BM_level 5 = .ok (.aload_n 0, 1) := by decide +kernel
theorem d_BM_level_6 : decode b_BM_level 6 = .ok (.getfield 29, 3) := by decide +kernel
theorem d_BM_level_9 : decode b_BM_level 9 = .ok (.getfield 125, 3) := by decide +kernel
theorem d_BM_level_12 : decode b_BM_level 12 = .ok (.if_icmp .le 13, 3) := by decide +kernel
theorem d_BM_level_15 : decode b_BM_level 15 = .ok (.new 116, 3) := by decide +kernel
theorem d_BM_level_18 : decode b_BM_level 18 = .ok (.dup, 1) := by decide +kernel
theorem d_BM_level_19 : decode b_BM_level 19 = .ok (.ldc 131, 2) := by decide +kernel
theorem d_BM_level_21 : decode b_BM_level 21 = .ok (.invokespecial 120, 3) := by decide +kernel
theorem d_BM_level_24 : decode b_BM_level 24 = .ok (.athrow, 1) := by decide +kernel
theorem d_BM_level_25 : decode b_BM_level 25 = .ok (.aload_n 0, 1) := by decide +kernel
theorem d_BM_level_26 : decode b_BM_level 26 = .ok (.getfield 29, 3) := by decide +kernel
theorem d_BM_level_29 : decode b_BM_level 29 = .ok (.iload_n 1, 1) := by decide +kernel
theorem d_BM_level_30 : decode b_BM_level 30 = .ok (.invokevirtual 133, 3) := by decide +kernel
theorem d_BM_level_33 : decode b_BM_level 33 = .ok (.ireturn, 1) := by decide +kernel
theorem d_BM_truth_0 : decode b_BM_truth 0 = .ok (.aload_n 0, 1) := by decide +kernel
theorem d_BM_truth_1 : decode b_BM_truth 1 = .ok (.getfield 18, 3) := by decide +kernel
theorem d_BM_truth_4 : decode b_BM_truth 4 = .ok (.iload_n 1, 1) := by decide +kernel
theorem d_BM_truth_5 : decode b_BM_truth 5 = .ok (.invokevirtual 82, 3) := by decide +kernel
theorem d_BM_truth_8 : decode b_BM_truth 8 = .ok (.ifCond .ne 13, 3) := by decide +kernel
theorem d_BM_truth_11 : decode b_BM_truth 11 = .ok (.new 116, 3) := by decide +kernel
theorem d_BM_truth_14 : decode b_BM_truth 14 = .ok (.dup, 1) := by decide +kernel
theorem d_BM_truth_15 : decode b_BM_truth 15 = .ok (.ldc 142, 2) := by decide +kernel
theorem d_BM_truth_17 : decode b_BM_truth 17 = .ok (.invokespecial 120, 3) := by decide +kernel
theorem d_BM_truth_20 : decode b_BM_truth 20 = .ok (.athrow, 1) := by decide +kernel
theorem d_BM_truth_21 : decode b_BM_truth 21 = .ok (.aload_n 0, 1) := by decide +kernel
theorem d_BM_truth_22 : decode b_BM_truth 22 = .ok (.getfield 36, 3) := by decide +kernel
theorem d_BM_truth_25 : decode b_BM_truth 25 = .ok (.iload_n 1, 1) := by decide +kernel
theorem d_BM_truth_26 : decode b_BM_truth 26 = .ok (.invokevirtual 144, 3) := by decide +kernel
theorem d_BM_truth_29 : decode b_BM_truth 29 = .ok (.ireturn, 1) := by decide +kernel
