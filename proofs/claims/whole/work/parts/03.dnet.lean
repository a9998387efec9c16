-- ===== decode rows =====
theorem d_Net_init_0 : decode b_Net_init 0 = .ok (.aload_n 0, 1) := by decide +kernel
theorem d_Net_init_1 : decode b_Net_init 1 = .ok (.invokespecial 3, 3) := by decide +kernel
theorem d_Net_init_4 : decode b_Net_init 4 = .ok (.aload_n 0, 1) := by decide +kernel
theorem d_Net_init_5 : decode b_Net_init 5 = .ok (.bipush 100, 2) := by decide +kernel
theorem d_Net_init_7 : decode b_Net_init 7 = .ok (.newarray .int, 2) := by decide +kernel
theorem d_Net_init_9 : decode b_Net_init 9 = .ok (.putfield 11, 3) := by decide +kernel
theorem d_Net_init_12 : decode b_Net_init 12 = .ok (.aload_n 0, 1) := by decide +kernel
theorem d_Net_init_13 : decode b_Net_init 13 = .ok (.bipush 100, 2) := by decide +kernel
theorem d_Net_init_15 : decode b_Net_init 15 = .ok (.newarray .int, 2) := by decide +kernel
theorem d_Net_init_17 : decode b_Net_init 17 = .ok (.putfield 15, 3) := by decide +kernel
theorem d_Net_init_20 : decode b_Net_init 20 = .ok (.aload_n 0, 1) := by decide +kernel
theorem d_Net_init_21 : decode b_Net_init 21 = .ok (.bipush 100, 2) := by decide +kernel
theorem d_Net_init_23 : decode b_Net_init 23 = .ok (.newarray .int, 2) := by decide +kernel
theorem d_Net_init_25 : decode b_Net_init 25 = .ok (.putfield 18, 3) := by decide +kernel
theorem d_Net_init_28 : decode b_Net_init 28 = .ok (.aload_n 0, 1) := by decide +kernel
theorem d_Net_init_29 : decode b_Net_init 29 = .ok (.bipush 14, 2) := by decide +kernel
theorem d_Net_init_31 : decode b_Net_init 31 = .ok (.newarray .int, 2) := by decide +kernel
theorem d_Net_init_33 : decode b_Net_init 33 = .ok (.putfield 21, 3) := by decide +kernel
theorem d_Net_init_36 : decode b_Net_init 36 = .ok (.aload_n 0, 1) := by decide +kernel
theorem d_Net_init_37 : decode b_Net_init 37 = .ok (.bipush 16, 2) := by decide +kernel
theorem d_Net_init_39 : decode b_Net_init 39 = .ok (.newarray .int, 2) := by decide +kernel
theorem d_Net_init_41 : decode b_Net_init 41 = .ok (.putfield 24, 3) := by decide +kernel
theorem d_Net_init_44 : decode b_Net_init 44 = .ok (.aload_n 0, 1) := by decide +kernel
theorem d_Net_init_45 : decode b_Net_init 45 = .ok (.bipush 16, 2) := by decide +kernel
theorem d_Net_init_47 : decode b_Net_init 47 = .ok (.newarray .int, 2) := by decide +kernel
theorem d_Net_init_49 : decode b_Net_init 49 = .ok (.putfield 27, 3) := by decide +kernel
theorem d_Net_init_52 : decode b_Net_init 52 = .ok (.aload_n 0, 1) := by decide +kernel
theorem d_Net_init_53 : decode b_Net_init 53 = .ok (.iload_n 1, 1) := by decide +kernel
theorem d_Net_init_54 : decode b_Net_init 54 = .ok (.putfield 30, 3) := by decide +kernel
theorem d_Net_init_57 : decode b_Net_init 57 = .ok (.aload_n 0, 1) := by decide +kernel
theorem d_Net_init_58 : decode b_Net_init 58 = .ok (.iconst 1, 1) := by decide +kernel
theorem d_Net_init_59 : decode b_Net_init 59 = .ok (.iload_n 1, 1) := by decide +kernel
theorem d_Net_init_60 : decode b_Net_init 60 = .ok (.ishl, 1) := by decide +kernel
theorem d_Net_init_61 : decode b_Net_init 61 = .ok (.putfield 34, 3) := by decide +kernel
theorem d_Net_init_64 : decode b_Net_init 64 = .ok (.aload_n 0, 1) := by decide +kernel
theorem d_Net_init_65 : decode b_Net_init 65 = .ok (.iload_n 1, 1) := by decide +kernel
theorem d_Net_init_66 : decode b_Net_init 66 = .ok (.putfield 37, 3) := by decide +kernel
theorem d_Net_init_69 : decode b_Net_init 69 = .ok (.iconst 0, 1) := by decide +kernel
theorem d_Net_init_70 : decode b_Net_init 70 = .ok (.istore_n 2, 1) := by decide +kernel
theorem d_Net_init_71 : decode b_Net_init 71 = .ok (.iload_n 2, 1) := by decide +kernel
theorem d_Net_init_72 : decode b_Net_init 72 = .ok (.iload_n 1, 1) := by decide +kernel
theorem d_Net_init_73 : decode b_Net_init 73 = .ok (.if_icmp .ge 24, 3) := by decide +kernel
theorem d_Net_init_76 : decode b_Net_init 76 = .ok (.aload_n 0, 1) := by decide +kernel
theorem d_Net_init_77 : decode b_Net_init 77 = .ok (.getfield 11, 3) := by decide +kernel
theorem d_Net_init_80 : decode b_Net_init 80 = .ok (.iload_n 2, 1) := by decide +kernel
theorem d_Net_init_81 : decode b_Net_init 81 = .ok (.bipush 6, 2) := by decide +kernel
theorem d_Net_init_83 : decode b_Net_init 83 = .ok (.iastore, 1) := by decide +kernel
theorem d_Net_init_84 : decode b_Net_init 84 = .ok (.aload_n 0, 1) := by decide +kernel
theorem d_Net_init_85 : decode b_Net_init 85 = .ok (.getfield 15, 3) := by decide +kernel
theorem d_Net_init_88 : decode b_Net_init 88 = .ok (.iload_n 2, 1) := by decide +kernel
theorem d_Net_init_89 : decode b_Net_init 89 = .ok (.iload_n 2, 1) := by decide +kernel
theorem d_Net_init_90 : decode b_Net_init 90 = .ok (.iastore, 1) := by decide +kernel
theorem d_Net_init_91 : decode b_Net_init 91 = .ok (.iinc 2 1, 3) := by decide +kernel
theorem d_Net_init_94 : decode b_Net_init 94 = .ok (.goto (-23), 3) := by decide +kernel
theorem d_Net_init_97 : decode b_Net_init 97 = .ok (.return_, 1) := by decide +kernel
theorem d_Hand_init_0 : decode b_Hand_init 0 = .ok (.aload_n 0, 1) := by decide +kernel
theorem d_Hand_init_1 : decode b_Hand_init 1 = .ok (.invokespecial 3, 3) := by decide +kernel
theorem d_Hand_init_4 : decode b_Hand_init 4 = .ok (.aload_n 0, 1) := by decide +kernel
theorem d_Hand_init_5 : decode b_Hand_init 5 = .ok (.bipush 100, 2) := by decide +kernel
theorem d_Hand_init_7 : decode b_Hand_init 7 = .ok (.newarray .int, 2) := by decide +kernel
theorem d_Hand_init_9 : decode b_Hand_init 9 = .ok (.putfield 11, 3) := by decide +kernel
theorem d_Hand_init_12 : decode b_Hand_init 12 = .ok (.aload_n 0, 1) := by decide +kernel
theorem d_Hand_init_13 : decode b_Hand_init 13 = .ok (.iconst (-1), 1) := by decide +kernel
theorem d_Hand_init_14 : decode b_Hand_init 14 = .ok (.putfield 17, 3) := by decide +kernel
theorem d_Hand_init_17 : decode b_Hand_init 17 = .ok (.aload_n 0, 1) := by decide +kernel
theorem d_Hand_init_18 : decode b_Hand_init 18 = .ok (.aload_n 1, 1) := by decide +kernel
theorem d_Hand_init_19 : decode b_Hand_init 19 = .ok (.putfield 21, 3) := by decide +kernel
theorem d_Hand_init_22 : decode b_Hand_init 22 = .ok (.return_, 1) := by decide +kernel
theorem d_Hand_restart_0 : decode b_Hand_restart 0 = .ok (.aload_n 0, 1) := by decide +kernel
theorem d_Hand_restart_1 : decode b_Hand_restart 1 = .ok (.aload_n 0, 1) := by decide +kernel
theorem d_Hand_restart_2 : decode b_Hand_restart 2 = .ok (.getfield 21, 3) := by decide +kernel
theorem d_Hand_restart_5 : decode b_Hand_restart 5 = .ok (.getfield 25, 3) := by decide +kernel
theorem d_Hand_restart_8 : decode b_Hand_restart 8 = .ok (.putfield 28, 3) := by decide +kernel
theorem d_Hand_restart_11 : decode b_Hand_restart 11 = .ok (.aload_n 0, 1) := by decide +kernel
theorem d_Hand_restart_12 : decode b_Hand_restart 12 = .ok (.iconst 0, 1) := by decide +kernel
theorem d_Hand_restart_13 : decode b_Hand_restart 13 = .ok (.putfield 31, 3) := by decide +kernel
theorem d_Hand_restart_16 : decode b_Hand_restart 16 = .ok (.aload_n 0, 1) := by decide +kernel
theorem d_Hand_restart_17 : decode b_Hand_restart 17 = .ok (.iconst 0, 1) := by decide +kernel
theorem d_Hand_restart_18 : decode b_Hand_restart 18 = .ok (.putfield 34, 3) := by decide +kernel
theorem d_Hand_restart_21 : decode b_Hand_restart 21 = .ok (.aload_n 0, 1) := by decide +kernel
theorem d_Hand_restart_22 : decode b_Hand_restart 22 = .ok (.iconst (-1), 1) := by decide +kernel
theorem d_Hand_restart_23 : decode b_Hand_restart 23 = .ok (.putfield 17, 3) := by decide +kernel
theorem d_Hand_restart_26 : decode b_Hand_restart 26 = .ok (.aload_n 0, 1) := by decide +kernel
theorem d_Hand_restart_27 : decode b_Hand_restart 27 = .ok (.getfield 21, 3) := by decide +kernel
theorem d_Hand_restart_30 : decode b_Hand_restart 30 = .ok (.aload_n 0, 1) := by decide +kernel
theorem d_Hand_restart_31 : decode b_Hand_restart 31 = .ok (.getfield 11, 3) := by decide +kernel
theorem d_Hand_restart_34 : decode b_Hand_restart 34 = .ok (.invokevirtual 37, 3) := by decide +kernel
theorem d_Hand_restart_37 : decode b_Hand_restart 37 = .ok (.return_, 1) := by decide +kernel
theorem d_Net_layAsAtFirst_0 : decode b_Net_layAsAtFirst 0 = .ok (.iconst 0, 1) := by decide +kernel
theorem d_Net_layAsAtFirst_1 : decode b_Net_layAsAtFirst 1 = .ok (.istore_n 2, 1) := by decide +kernel
theorem d_Net_layAsAtFirst_2 : decode b_Net_layAsAtFirst 2 = .ok (.iload_n 2, 1) := by decide +kernel
theorem d_Net_layAsAtFirst_3 : decode b_Net_layAsAtFirst 3 = .ok (.aload_n 0, 1) := by decide +kernel
theorem d_Net_layAsAtFirst_4 : decode b_Net_layAsAtFirst 4 = .ok (.getfield 37, 3) := by decide +kernel
theorem d_Net_layAsAtFirst_7 : decode b_Net_layAsAtFirst 7 = .ok (.if_icmp .ge 40, 3) := by decide +kernel
theorem d_Net_layAsAtFirst_10 : decode b_Net_layAsAtFirst 10 = .ok (.aload_n 1, 1) := by decide +kernel
theorem d_Net_layAsAtFirst_11 : decode b_Net_layAsAtFirst 11 = .ok (.iload_n 2, 1) := by decide +kernel
theorem d_Net_layAsAtFirst_12 : decode b_Net_layAsAtFirst 12 = .ok (.aload_n 0, 1) := by decide +kernel
theorem d_Net_layAsAtFirst_13 : decode b_Net_layAsAtFirst 13 = .ok (.getfield 11, 3) := by decide +kernel
theorem d_Net_layAsAtFirst_16 : decode b_Net_layAsAtFirst 16 = .ok (.iload_n 2, 1) := by decide +kernel
theorem d_Net_layAsAtFirst_17 : decode b_Net_layAsAtFirst 17 = .ok (.iaload, 1) := by decide +kernel
theorem d_Net_layAsAtFirst_18 : decode b_Net_layAsAtFirst 18 = .ok (.bipush 7, 2) := by decide +kernel
theorem d_Net_layAsAtFirst_20 : decode b_Net_layAsAtFirst 20 = .ok (.if_icmp .ne 19, 3) := by decide +kernel
theorem d_Net_layAsAtFirst_23 : decode b_Net_layAsAtFirst 23 = .ok (.aload_n 0, 1) := by decide +kernel
theorem d_Net_layAsAtFirst_24 : decode b_Net_layAsAtFirst 24 = .ok (.getfield 15, 3) := by decide +kernel
theorem d_Net_layAsAtFirst_27 : decode b_Net_layAsAtFirst 27 = .ok (.iload_n 2, 1) := by decide +kernel
theorem d_Net_layAsAtFirst_28 : decode b_Net_layAsAtFirst 28 = .ok (.iaload, 1) := by decide +kernel
theorem d_Net_layAsAtFirst_29 : decode b_Net_layAsAtFirst 29 = .ok (.aload_n 0, 1) := by decide +kernel
theorem d_Net_layAsAtFirst_30 : decode b_Net_layAsAtFirst 30 = .ok (.getfield 60, 3) := by decide +kernel
theorem d_Net_layAsAtFirst_33 : decode b_Net_layAsAtFirst 33 = .ok (.invokestatic 66, 3) := by decide +kernel
theorem d_Net_layAsAtFirst_36 : decode b_Net_layAsAtFirst 36 = .ok (.goto 4, 3) := by decide +kernel
theorem d_Net_layAsAtFirst_39 : decode b_Net_layAsAtFirst 39 = .ok (.iconst 0, 1) := by decide +kernel
theorem d_Net_layAsAtFirst_40 : decode b_Net_layAsAtFirst 40 = .ok (.iastore, 1) := by decide +kernel
theorem d_Net_layAsAtFirst_41 : decode b_Net_layAsAtFirst 41 = .ok (.iinc 2 1, 3) := by decide +kernel
theorem d_Net_layAsAtFirst_44 : decode b_Net_layAsAtFirst 44 = .ok (.goto (-42), 3) := by decide +kernel
theorem d_Net_layAsAtFirst_47 : decode b_Net_layAsAtFirst 47 = .ok (.return_, 1) := by decide +kernel
theorem d_Net_lanesOfState_0 : decode b_Net_lanesOfState 0 = .ok (.iload_n 1, 1) := by decide +kernel
theorem d_Net_lanesOfState_1 : decode b_Net_lanesOfState 1 = .ok (.iload_n 0, 1) := by decide +kernel
theorem d_Net_lanesOfState_2 : decode b_Net_lanesOfState 2 = .ok (.ishr, 1) := by decide +kernel
theorem d_Net_lanesOfState_3 : decode b_Net_lanesOfState 3 = .ok (.iconst 1, 1) := by decide +kernel
theorem d_Net_lanesOfState_4 : decode b_Net_lanesOfState 4 = .ok (.iand, 1) := by decide +kernel
theorem d_Net_lanesOfState_5 : decode b_Net_lanesOfState 5 = .ok (.ifCond .ne 7, 3) := by decide +kernel
theorem d_Net_lanesOfState_8 : decode b_Net_lanesOfState 8 = .ok (.iconst 0, 1) := by decide +kernel
theorem d_Net_lanesOfState_9 : decode b_Net_lanesOfState 9 = .ok (.goto 4, 3) := by decide +kernel
theorem d_Net_lanesOfState_12 : decode b_Net_lanesOfState 12 = .ok (.iconst (-1), 1) := by decide +kernel
theorem d_Net_lanesOfState_13 : decode b_Net_lanesOfState 13 = .ok (.ireturn, 1) := by decide +kernel
theorem d_Hand_step_0 : decode b_Hand_step 0 = .ok (.aload_n 0, 1) := by decide +kernel
theorem d_Hand_step_1 : decode b_Hand_step 1 = .ok (.iload_n 1, 1) := by decide +kernel
theorem d_Hand_step_2 : decode b_Hand_step 2 = .ok (.aload_n 0, 1) := by decide +kernel
theorem d_Hand_step_3 : decode b_Hand_step 3 = .ok (.getfield 21, 3) := by decide +kernel
theorem d_Hand_step_6 : decode b_Hand_step 6 = .ok (.getfield 41, 3) := by decide +kernel
theorem d_Hand_step_9 : decode b_Hand_step 9 = .ok (.iconst 1, 1) := by decide +kernel
theorem d_Hand_step_10 : decode b_Hand_step 10 = .ok (.isub, 1) := by decide +kernel
theorem d_Hand_step_11 : decode b_Hand_step 11 = .ok (.iand, 1) := by decide +kernel
theorem d_Hand_step_12 : decode b_Hand_step 12 = .ok (.putfield 31, 3) := by decide +kernel
theorem d_Hand_step_15 : decode b_Hand_step 15 = .ok (.aload_n 0, 1) := by decide +kernel
theorem d_Hand_step_16 : decode b_Hand_step 16 = .ok (.getfield 21, 3) := by decide +kernel
theorem d_Hand_step_19 : decode b_Hand_step 19 = .ok (.aload_n 0, 1) := by decide +kernel
theorem d_Hand_step_20 : decode b_Hand_step 20 = .ok (.getfield 28, 3) := by decide +kernel
theorem d_Hand_step_23 : decode b_Hand_step 23 = .ok (.aload_n 0, 1) := by decide +kernel
theorem d_Hand_step_24 : decode b_Hand_step 24 = .ok (.getfield 11, 3) := by decide +kernel
theorem d_Hand_step_27 : decode b_Hand_step 27 = .ok (.invokevirtual 44, 3) := by decide +kernel
theorem d_Hand_step_30 : decode b_Hand_step 30 = .ok (.aload_n 0, 1) := by decide +kernel
theorem d_Hand_step_31 : decode b_Hand_step 31 = .ok (.aload_n 0, 1) := by decide +kernel
theorem d_Hand_step_32 : decode b_Hand_step 32 = .ok (.getfield 21, 3) := by decide +kernel
theorem d_Hand_step_35 : decode b_Hand_step 35 = .ok (.aload_n 0, 1) := by decide +kernel
theorem d_Hand_step_36 : decode b_Hand_step 36 = .ok (.getfield 31, 3) := by decide +kernel
theorem d_Hand_step_39 : decode b_Hand_step 39 = .ok (.aload_n 0, 1) := by decide +kernel
theorem d_Hand_step_40 : decode b_Hand_step 40 = .ok (.getfield 11, 3) := by decide +kernel
theorem d_Hand_step_43 : decode b_Hand_step 43 = .ok (.invokevirtual 48, 3) := by decide +kernel
theorem d_Hand_step_46 : decode b_Hand_step 46 = .ok (.putfield 17, 3) := by decide +kernel
theorem d_Hand_step_49 : decode b_Hand_step 49 = .ok (.aload_n 0, 1) := by decide +kernel
theorem d_Hand_step_50 : decode b_Hand_step 50 = .ok (.aload_n 0, 1) := by decide +kernel
theorem d_Hand_step_51 : decode b_Hand_step 51 = .ok (.getfield 21, 3) := by decide +kernel
theorem d_Hand_step_54 : decode b_Hand_step 54 = .ok (.aload_n 0, 1) := by decide +kernel
theorem d_Hand_step_55 : decode b_Hand_step 55 = .ok (.getfield 31, 3) := by decide +kernel
theorem d_Hand_step_58 : decode b_Hand_step 58 = .ok (.aload_n 0, 1) := by decide +kernel
theorem d_Hand_step_59 : decode b_Hand_step 59 = .ok (.getfield 11, 3) := by decide +kernel
theorem d_Hand_step_62 : decode b_Hand_step 62 = .ok (.invokevirtual 52, 3) := by decide +kernel
theorem d_Hand_step_65 : decode b_Hand_step 65 = .ok (.putfield 28, 3) := by decide +kernel
theorem d_Hand_step_68 : decode b_Hand_step 68 = .ok (.aload_n 0, 1) := by decide +kernel
theorem d_Hand_step_69 : decode b_Hand_step 69 = .ok (.dup, 1) := by decide +kernel
theorem d_Hand_step_70 : decode b_Hand_step 70 = .ok (.getfield 34, 3) := by decide +kernel
theorem d_Hand_step_73 : decode b_Hand_step 73 = .ok (.iconst 1, 1) := by decide +kernel
theorem d_Hand_step_74 : decode b_Hand_step 74 = .ok (.iadd, 1) := by decide +kernel
theorem d_Hand_step_75 : decode b_Hand_step 75 = .ok (.putfield 34, 3) := by decide +kernel
theorem d_Hand_step_78 : decode b_Hand_step 78 = .ok (.aload_n 0, 1) := by decide +kernel
theorem d_Hand_step_79 : decode b_Hand_step 79 = .ok (.getfield 17, 3) := by decide +kernel
theorem d_Hand_step_82 : decode b_Hand_step 82 = .ok (.iconst (-1), 1) := by decide +kernel
theorem d_Hand_step_83 : decode b_Hand_step 83 = .ok (.if_icmp .eq 7, 3) := by decide +kernel
theorem d_Hand_step_86 : decode b_Hand_step 86 = .ok (.iconst 1, 1) := by decide +kernel
theorem d_Hand_step_87 : decode b_Hand_step 87 = .ok (.goto 4, 3) := by decide +kernel
theorem d_Hand_step_90 : decode b_Hand_step 90 = .ok (.iconst 0, 1) := by decide +kernel
theorem d_Hand_step_91 : decode b_Hand_step 91 = .ok (.ireturn, 1) := by decide +kernel
theorem d_Net_settle_0 : decode b_Net_settle 0 = .ok (.iconst 0, 1) := by decide +kernel
theorem d_Net_settle_1 : decode b_Net_settle 1 = .ok (.istore_n 3, 1) := by decide +kernel
theorem d_Net_settle_2 : decode b_Net_settle 2 = .ok (.iload_n 3, 1) := by decide +kernel
theorem d_Net_settle_3 : decode b_Net_settle 3 = .ok (.aload_n 0, 1) := by decide +kernel
theorem d_Net_settle_4 : decode b_Net_settle 4 = .ok (.getfield 37, 3) := by decide +kernel
theorem d_Net_settle_7 : decode b_Net_settle 7 = .ok (.if_icmp .ge 19, 3) := by decide +kernel
theorem d_Net_settle_10 : decode b_Net_settle 10 = .ok (.aload_n 2, 1) := by decide +kernel
theorem d_Net_settle_11 : decode b_Net_settle 11 = .ok (.iload_n 3, 1) := by decide +kernel
theorem d_Net_settle_12 : decode b_Net_settle 12 = .ok (.aload_n 0, 1) := by decide +kernel
theorem d_Net_settle_13 : decode b_Net_settle 13 = .ok (.iload_n 3, 1) := by decide +kernel
theorem d_Net_settle_14 : decode b_Net_settle 14 = .ok (.iload_n 1, 1) := by decide +kernel
theorem d_Net_settle_15 : decode b_Net_settle 15 = .ok (.aload_n 2, 1) := by decide +kernel
theorem d_Net_settle_16 : decode b_Net_settle 16 = .ok (.invokevirtual 70, 3) := by decide +kernel
theorem d_Net_settle_19 : decode b_Net_settle 19 = .ok (.iastore, 1) := by decide +kernel
theorem d_Net_settle_20 : decode b_Net_settle 20 = .ok (.iinc 3 1, 3) := by decide +kernel
theorem d_Net_settle_23 : decode b_Net_settle 23 = .ok (.goto (-21), 3) := by decide +kernel
theorem d_Net_settle_26 : decode b_Net_settle 26 = .ok (.return_, 1) := by decide +kernel
theorem d_Net_lanesOf_0 : decode b_Net_lanesOf 0 = .ok (.aload_n 0, 1) := by decide +kernel
theorem d_Net_lanesOf_1 : decode b_Net_lanesOf 1 = .ok (.getfield 15, 3) := by decide +kernel
theorem d_Net_lanesOf_4 : decode b_Net_lanesOf 4 = .ok (.iload_n 1, 1) := by decide +kernel
theorem d_Net_lanesOf_5 : decode b_Net_lanesOf 5 = .ok (.iaload, 1) := by decide +kernel
theorem d_Net_lanesOf_6 : decode b_Net_lanesOf 6 = .ok (.istore 4, 2) := by decide +kernel
theorem d_Net_lanesOf_8 : decode b_Net_lanesOf 8 = .ok (.aload_n 0, 1) := by decide +kernel
theorem d_Net_lanesOf_9 : decode b_Net_lanesOf 9 = .ok (.getfield 18, 3) := by decide +kernel
theorem d_Net_lanesOf_12 : decode b_Net_lanesOf 12 = .ok (.iload_n 1, 1) := by decide +kernel
theorem d_Net_lanesOf_13 : decode b_Net_lanesOf 13 = .ok (.iaload, 1) := by decide +kernel
theorem d_Net_lanesOf_14 : decode b_Net_lanesOf 14 = .ok (.istore 5, 2) := by decide +kernel
theorem d_Net_lanesOf_16 : decode b_Net_lanesOf 16 = .ok (.aload_n 0, 1) := by decide +kernel
theorem d_Net_lanesOf_17 : decode b_Net_lanesOf 17 = .ok (.getfield 11, 3) := by decide +kernel
theorem d_Net_lanesOf_20 : decode b_Net_lanesOf 20 = .ok (.iload_n 1, 1) := by decide +kernel
theorem d_Net_lanesOf_21 : decode b_Net_lanesOf 21 = .ok (.iaload, 1) := by decide +kernel
theorem d_Net_lanesOf_22 : decode b_Net_lanesOf 22 = .ok (.tableswitch 90 0 6 #[42, 52, 62, 72, 79, 81, 83], 42) := by decide +kernel
theorem d_Net_lanesOf_64 : decode b_Net_lanesOf 64 = .ok (.aload_n 3, 1) := by decide +kernel
theorem d_Net_lanesOf_65 : decode b_Net_lanesOf 65 = .ok (.iload 4, 2) := by decide +kernel
theorem d_Net_lanesOf_67 : decode b_Net_lanesOf 67 = .ok (.iaload, 1) := by decide +kernel
theorem d_Net_lanesOf_68 : decode b_Net_lanesOf 68 = .ok (.aload_n 3, 1) := by decide +kernel
theorem d_Net_lanesOf_69 : decode b_Net_lanesOf 69 = .ok (.iload 5, 2) := by decide +kernel
theorem d_Net_lanesOf_71 : decode b_Net_lanesOf 71 = .ok (.iaload, 1) := by decide +kernel
theorem d_Net_lanesOf_72 : decode b_Net_lanesOf 72 = .ok (.iand, 1) := by decide +kernel
theorem d_Net_lanesOf_73 : decode b_Net_lanesOf 73 = .ok (.ireturn, 1) := by decide +kernel
theorem d_Net_lanesOf_74 : decode b_Net_lanesOf 74 = .ok (.aload_n 3, 1) := by decide +kernel
theorem d_Net_lanesOf_75 : decode b_Net_lanesOf 75 = .ok (.iload 4, 2) := by decide +kernel
theorem d_Net_lanesOf_77 : decode b_Net_lanesOf 77 = .ok (.iaload, 1) := by decide +kernel
theorem d_Net_lanesOf_78 : decode b_Net_lanesOf 78 = .ok (.aload_n 3, 1) := by decide +kernel
theorem d_Net_lanesOf_79 : decode b_Net_lanesOf 79 = .ok (.iload 5, 2) := by decide +kernel
theorem d_Net_lanesOf_81 : decode b_Net_lanesOf 81 = .ok (.iaload, 1) := by decide +kernel
theorem d_Net_lanesOf_82 : decode b_Net_lanesOf 82 = .ok (.ior, 1) := by decide +kernel
theorem d_Net_lanesOf_83 : decode b_Net_lanesOf 83 = .ok (.ireturn, 1) := by decide +kernel
theorem d_Net_lanesOf_84 : decode b_Net_lanesOf 84 = .ok (.aload_n 3, 1) := by decide +kernel
theorem d_Net_lanesOf_85 : decode b_Net_lanesOf 85 = .ok (.iload 4, 2) := by decide +kernel
theorem d_Net_lanesOf_87 : decode b_Net_lanesOf 87 = .ok (.iaload, 1) := by decide +kernel
theorem d_Net_lanesOf_88 : decode b_Net_lanesOf 88 = .ok (.aload_n 3, 1) := by decide +kernel
theorem d_Net_lanesOf_89 : decode b_Net_lanesOf 89 = .ok (.iload 5, 2) := by decide +kernel
theorem d_Net_lanesOf_91 : decode b_Net_lanesOf 91 = .ok (.iaload, 1) := by decide +kernel
theorem d_Net_lanesOf_92 : decode b_Net_lanesOf 92 = .ok (.ixor, 1) := by decide +kernel
theorem d_Net_lanesOf_93 : decode b_Net_lanesOf 93 = .ok (.ireturn, 1) := by decide +kernel
theorem d_Net_lanesOf_94 : decode b_Net_lanesOf 94 = .ok (.aload_n 3, 1) := by decide +kernel
theorem d_Net_lanesOf_95 : decode b_Net_lanesOf 95 = .ok (.iload 4, 2) := by decide +kernel
theorem d_Net_lanesOf_97 : decode b_Net_lanesOf 97 = .ok (.iaload, 1) := by decide +kernel
theorem d_Net_lanesOf_98 : decode b_Net_lanesOf 98 = .ok (.iconst (-1), 1) := by decide +kernel
theorem d_Net_lanesOf_99 : decode b_Net_lanesOf 99 = .ok (.ixor, 1) := by decide +kernel
theorem d_Net_lanesOf_100 : decode b_Net_lanesOf 100 = .ok (.ireturn, 1) := by decide +kernel
theorem d_Net_lanesOf_101 : decode b_Net_lanesOf 101 = .ok (.iconst 0, 1) := by decide +kernel
theorem d_Net_lanesOf_102 : decode b_Net_lanesOf 102 = .ok (.ireturn, 1) := by decide +kernel
theorem d_Net_lanesOf_103 : decode b_Net_lanesOf 103 = .ok (.iconst (-1), 1) := by decide +kernel
theorem d_Net_lanesOf_104 : decode b_Net_lanesOf 104 = .ok (.ireturn, 1) := by decide +kernel
theorem d_Net_lanesOf_105 : decode b_Net_lanesOf 105 = .ok (.getstatic 74, 3) := by decide +kernel
theorem d_Net_lanesOf_108 : decode b_Net_lanesOf 108 = .ok (.iload 4, 2) := by decide +kernel
theorem d_Net_lanesOf_110 : decode b_Net_lanesOf 110 = .ok (.iaload, 1) := by decide +kernel
theorem d_Net_lanesOf_111 : decode b_Net_lanesOf 111 = .ok (.ireturn, 1) := by decide +kernel
theorem d_Net_lanesOf_112 : decode b_Net_lanesOf 112 = .ok (.iload 4, 2) := by decide +kernel
theorem d_Net_lanesOf_114 : decode b_Net_lanesOf 114 = .ok (.iload_n 2, 1) := by decide +kernel
theorem d_Net_lanesOf_115 : decode b_Net_lanesOf 115 = .ok (.invokestatic 66, 3) := by decide +kernel
theorem d_Net_lanesOf_118 : decode b_Net_lanesOf 118 = .ok (.ireturn, 1) := by decide +kernel
theorem d_Net_firstDifferingPair_0 : decode b_Net_firstDifferingPair 0 = .ok (.iconst 0, 1) := by decide +kernel
theorem d_Net_firstDifferingPair_1 : decode b_Net_firstDifferingPair 1 = .ok (.istore_n 3, 1) := by decide +kernel
theorem d_Net_firstDifferingPair_2 : decode b_Net_firstDifferingPair 2 = .ok (.iload_n 3, 1) := by decide +kernel
theorem d_Net_firstDifferingPair_3 : decode b_Net_firstDifferingPair 3 = .ok (.aload_n 0, 1) := by decide +kernel
theorem d_Net_firstDifferingPair_4 : decode b_Net_firstDifferingPair 4 = .ok (.getfield 43, 3) := by decide +kernel
theorem d_Net_firstDifferingPair_7 : decode b_Net_firstDifferingPair 7 = .ok (.if_icmp .ge 39, 3) := by decide +kernel
theorem d_Net_firstDifferingPair_10 : decode b_Net_firstDifferingPair 10 = .ok (.aload_n 2, 1) := by decide +kernel
theorem d_Net_firstDifferingPair_11 : decode b_Net_firstDifferingPair 11 = .ok (.aload_n 0, 1) := by decide +kernel
theorem d_Net_firstDifferingPair_12 : decode b_Net_firstDifferingPair 12 = .ok (.getfield 24, 3) := by decide +kernel
theorem d_Net_firstDifferingPair_15 : decode b_Net_firstDifferingPair 15 = .ok (.iload_n 3, 1) := by decide +kernel
theorem d_Net_firstDifferingPair_16 : decode b_Net_firstDifferingPair 16 = .ok (.iaload, 1) := by decide +kernel
theorem d_Net_firstDifferingPair_17 : decode b_Net_firstDifferingPair 17 = .ok (.iaload, 1) := by decide +kernel
theorem d_Net_firstDifferingPair_18 : decode b_Net_firstDifferingPair 18 = .ok (.aload_n 2, 1) := by decide +kernel
theorem d_Net_firstDifferingPair_19 : decode b_Net_firstDifferingPair 19 = .ok (.aload_n 0, 1) := by decide +kernel
theorem d_Net_firstDifferingPair_20 : decode b_Net_firstDifferingPair 20 = .ok (.getfield 27, 3) := by decide +kernel
theorem d_Net_firstDifferingPair_23 : decode b_Net_firstDifferingPair 23 = .ok (.iload_n 3, 1) := by decide +kernel
theorem d_Net_firstDifferingPair_24 : decode b_Net_firstDifferingPair 24 = .ok (.iaload, 1) := by decide +kernel
theorem d_Net_firstDifferingPair_25 : decode b_Net_firstDifferingPair 25 = .ok (.iaload, 1) := by decide +kernel
theorem d_Net_firstDifferingPair_26 : decode b_Net_firstDifferingPair 26 = .ok (.ixor, 1) := by decide +kernel
theorem d_Net_firstDifferingPair_27 : decode b_Net_firstDifferingPair 27 = .ok (.istore 4, 2) := by decide +kernel
theorem d_Net_firstDifferingPair_29 : decode b_Net_firstDifferingPair 29 = .ok (.iload 4, 2) := by decide +kernel
theorem d_Net_firstDifferingPair_31 : decode b_Net_firstDifferingPair 31 = .ok (.iload_n 1, 1) := by decide +kernel
theorem d_Net_firstDifferingPair_32 : decode b_Net_firstDifferingPair 32 = .ok (.ishr, 1) := by decide +kernel
theorem d_Net_firstDifferingPair_33 : decode b_Net_firstDifferingPair 33 = .ok (.iconst 1, 1) := by decide +kernel
theorem d_Net_firstDifferingPair_34 : decode b_Net_firstDifferingPair 34 = .ok (.iand, 1) := by decide +kernel
theorem d_Net_firstDifferingPair_35 : decode b_Net_firstDifferingPair 35 = .ok (.ifCond .eq 5, 3) := by decide +kernel
theorem d_Net_firstDifferingPair_38 : decode b_Net_firstDifferingPair 38 = .ok (.iload_n 3, 1) := by decide +kernel
theorem d_Net_firstDifferingPair_39 : decode b_Net_firstDifferingPair 39 = .ok (.ireturn, 1) := by decide +kernel
theorem d_Net_firstDifferingPair_40 : decode b_Net_firstDifferingPair 40 = .ok (.iinc 3 1, 3) := by decide +kernel
theorem d_Net_firstDifferingPair_43 : decode b_Net_firstDifferingPair 43 = .ok (.goto (-41), 3) := by decide +kernel
theorem d_Net_firstDifferingPair_46 : decode b_Net_firstDifferingPair 46 = .ok (.iconst (-1), 1) := by decide +kernel
theorem d_Net_firstDifferingPair_47 : decode b_Net_firstDifferingPair 47 = .ok (.ireturn, 1) := by decide +kernel
theorem d_Net_rowAfter_0 : decode b_Net_rowAfter 0 = .ok (.iconst 0, 1) := by decide +kernel
theorem d_Net_rowAfter_1 : decode b_Net_rowAfter 1 = .ok (.istore_n 3, 1) := by decide +kernel
theorem d_Net_rowAfter_2 : decode b_Net_rowAfter 2 = .ok (.iconst 0, 1) := by decide +kernel
theorem d_Net_rowAfter_3 : decode b_Net_rowAfter 3 = .ok (.istore 4, 2) := by decide +kernel
theorem d_Net_rowAfter_5 : decode b_Net_rowAfter 5 = .ok (.iload 4, 2) := by decide +kernel
theorem d_Net_rowAfter_7 : decode b_Net_rowAfter 7 = .ok (.aload_n 0, 1) := by decide +kernel
theorem d_Net_rowAfter_8 : decode b_Net_rowAfter 8 = .ok (.getfield 40, 3) := by decide +kernel
theorem d_Net_rowAfter_11 : decode b_Net_rowAfter 11 = .ok (.if_icmp .ge 28, 3) := by decide +kernel
theorem d_Net_rowAfter_14 : decode b_Net_rowAfter 14 = .ok (.iload_n 3, 1) := by decide +kernel
theorem d_Net_rowAfter_15 : decode b_Net_rowAfter 15 = .ok (.aload_n 2, 1) := by decide +kernel
theorem d_Net_rowAfter_16 : decode b_Net_rowAfter 16 = .ok (.aload_n 0, 1) := by decide +kernel
theorem d_Net_rowAfter_17 : decode b_Net_rowAfter 17 = .ok (.getfield 21, 3) := by decide +kernel
theorem d_Net_rowAfter_20 : decode b_Net_rowAfter 20 = .ok (.iload 4, 2) := by decide +kernel
theorem d_Net_rowAfter_22 : decode b_Net_rowAfter 22 = .ok (.iaload, 1) := by decide +kernel
theorem d_Net_rowAfter_23 : decode b_Net_rowAfter 23 = .ok (.iaload, 1) := by decide +kernel
theorem d_Net_rowAfter_24 : decode b_Net_rowAfter 24 = .ok (.iload_n 1, 1) := by decide +kernel
theorem d_Net_rowAfter_25 : decode b_Net_rowAfter 25 = .ok (.ishr, 1) := by decide +kernel
theorem d_Net_rowAfter_26 : decode b_Net_rowAfter 26 = .ok (.iconst 1, 1) := by decide +kernel
theorem d_Net_rowAfter_27 : decode b_Net_rowAfter 27 = .ok (.iand, 1) := by decide +kernel
theorem d_Net_rowAfter_28 : decode b_Net_rowAfter 28 = .ok (.iload 4, 2) := by decide +kernel
theorem d_Net_rowAfter_30 : decode b_Net_rowAfter 30 = .ok (.ishl, 1) := by decide +kernel
theorem d_Net_rowAfter_31 : decode b_Net_rowAfter 31 = .ok (.ior, 1) := by decide +kernel
theorem d_Net_rowAfter_32 : decode b_Net_rowAfter 32 = .ok (.istore_n 3, 1) := by decide +kernel
theorem d_Net_rowAfter_33 : decode b_Net_rowAfter 33 = .ok (.iinc 4 1, 3) := by decide +kernel
theorem d_Net_rowAfter_36 : decode b_Net_rowAfter 36 = .ok (.goto (-31), 3) := by decide +kernel
theorem d_Net_rowAfter_39 : decode b_Net_rowAfter 39 = .ok (.iload_n 3, 1) := by decide +kernel
theorem d_Net_rowAfter_40 : decode b_Net_rowAfter 40 = .ok (.ireturn, 1) := by decide +kernel
theorem d_Net_gateCount_0 : decode b_Net_gateCount 0 = .ok (.aload_n 0, 1) := by decide +kernel
theorem d_Net_gateCount_1 : decode b_Net_gateCount 1 = .ok (.getfield 37, 3) := by decide +kernel
theorem d_Net_gateCount_4 : decode b_Net_gateCount 4 = .ok (.aload_n 0, 1) := by decide +kernel
theorem d_Net_gateCount_5 : decode b_Net_gateCount 5 = .ok (.getfield 30, 3) := by decide +kernel
theorem d_Net_gateCount_8 : decode b_Net_gateCount 8 = .ok (.isub, 1) := by decide +kernel
theorem d_Net_gateCount_9 : decode b_Net_gateCount 9 = .ok (.aload_n 0, 1) := by decide +kernel
theorem d_Net_gateCount_10 : decode b_Net_gateCount 10 = .ok (.getfield 40, 3) := by decide +kernel
theorem d_Net_gateCount_13 : decode b_Net_gateCount 13 = .ok (.isub, 1) := by decide +kernel
theorem d_Net_gateCount_14 : decode b_Net_gateCount 14 = .ok (.ireturn, 1) := by decide +kernel
theorem d_Net_hasAllStates_0 : decode b_Net_hasAllStates 0 = .ok (.aload_n 0, 1) := by decide +kernel
theorem d_Net_hasAllStates_1 : decode b_Net_hasAllStates 1 = .ok (.getfield 40, 3) := by decide +kernel
theorem d_Net_hasAllStates_4 : decode b_Net_hasAllStates 4 = .ok (.bipush 14, 2) := by decide +kernel
theorem d_Net_hasAllStates_6 : decode b_Net_hasAllStates 6 = .ok (.if_icmp .lt 7, 3) := by decide +kernel
theorem d_Net_hasAllStates_9 : decode b_Net_hasAllStates 9 = .ok (.iconst 1, 1) := by decide +kernel
theorem d_Net_hasAllStates_10 : decode b_Net_hasAllStates 10 = .ok (.goto 4, 3) := by decide +kernel
theorem d_Net_hasAllStates_13 : decode b_Net_hasAllStates 13 = .ok (.iconst 0, 1) := by decide +kernel
theorem d_Net_hasAllStates_14 : decode b_Net_hasAllStates 14 = .ok (.ireturn, 1) := by decide +kernel
theorem d_Net_hasAllNodes_0 : decode b_Net_hasAllNodes 0 = .ok (.aload_n 0, 1) := by decide +kernel
theorem d_Net_hasAllNodes_1 : decode b_Net_hasAllNodes 1 = .ok (.getfield 37, 3) := by decide +kernel
theorem d_Net_hasAllNodes_4 : decode b_Net_hasAllNodes 4 = .ok (.bipush 100, 2) := by decide +kernel
theorem d_Net_hasAllNodes_6 : decode b_Net_hasAllNodes 6 = .ok (.if_icmp .lt 7, 3) := by decide +kernel
theorem d_Net_hasAllNodes_9 : decode b_Net_hasAllNodes 9 = .ok (.iconst 1, 1) := by decide +kernel
theorem d_Net_hasAllNodes_10 : decode b_Net_hasAllNodes 10 = .ok (.goto 4, 3) := by decide +kernel
theorem d_Net_hasAllNodes_13 : decode b_Net_hasAllNodes 13 = .ok (.iconst 0, 1) := by decide +kernel
theorem d_Net_hasAllNodes_14 : decode b_Net_hasAllNodes 14 = .ok (.ireturn, 1) := by decide +kernel
theorem d_Net_addState_0 : decode b_Net_addState 0 = .ok (.aload_n 0, 1) := by decide +kernel
theorem d_Net_addState_1 : decode b_Net_addState 1 = .ok (.bipush 7, 2) := by decide +kernel
theorem d_Net_addState_3 : decode b_Net_addState 3 = .ok (.aload_n 0, 1) := by decide +kernel
theorem d_Net_addState_4 : decode b_Net_addState 4 = .ok (.getfield 40, 3) := by decide +kernel
theorem d_Net_addState_7 : decode b_Net_addState 7 = .ok (.iconst 0, 1) := by decide +kernel
theorem d_Net_addState_8 : decode b_Net_addState 8 = .ok (.invokevirtual 56, 3) := by decide +kernel
theorem d_Net_addState_11 : decode b_Net_addState 11 = .ok (.istore_n 3, 1) := by decide +kernel
theorem d_Net_addState_12 : decode b_Net_addState 12 = .ok (.aload_n 0, 1) := by decide +kernel
theorem d_Net_addState_13 : decode b_Net_addState 13 = .ok (.getfield 21, 3) := by decide +kernel
theorem d_Net_addState_16 : decode b_Net_addState 16 = .ok (.aload_n 0, 1) := by decide +kernel
theorem d_Net_addState_17 : decode b_Net_addState 17 = .ok (.getfield 40, 3) := by decide +kernel
theorem d_Net_addState_20 : decode b_Net_addState 20 = .ok (.iload_n 3, 1) := by decide +kernel
theorem d_Net_addState_21 : decode b_Net_addState 21 = .ok (.iastore, 1) := by decide +kernel
theorem d_Net_addState_22 : decode b_Net_addState 22 = .ok (.iload_n 2, 1) := by decide +kernel
theorem d_Net_addState_23 : decode b_Net_addState 23 = .ok (.ifCond .eq 18, 3) := by decide +kernel
theorem d_Net_addState_26 : decode b_Net_addState 26 = .ok (.aload_n 0, 1) := by decide +kernel
theorem d_Net_addState_27 : decode b_Net_addState 27 = .ok (.dup, 1) := by decide +kernel
theorem d_Net_addState_28 : decode b_Net_addState 28 = .ok (.getfield 60, 3) := by decide +kernel
theorem d_Net_addState_31 : decode b_Net_addState 31 = .ok (.iconst 1, 1) := by decide +kernel
theorem d_Net_addState_32 : decode b_Net_addState 32 = .ok (.aload_n 0, 1) := by decide +kernel
theorem d_Net_addState_33 : decode b_Net_addState 33 = .ok (.getfield 40, 3) := by decide +kernel
theorem d_Net_addState_36 : decode b_Net_addState 36 = .ok (.ishl, 1) := by decide +kernel
theorem d_Net_addState_37 : decode b_Net_addState 37 = .ok (.ior, 1) := by decide +kernel
theorem d_Net_addState_38 : decode b_Net_addState 38 = .ok (.putfield 60, 3) := by decide +kernel
theorem d_Net_addState_41 : decode b_Net_addState 41 = .ok (.aload_n 0, 1) := by decide +kernel
theorem d_Net_addState_42 : decode b_Net_addState 42 = .ok (.dup, 1) := by decide +kernel
theorem d_Net_addState_43 : decode b_Net_addState 43 = .ok (.getfield 63, 3) := by decide +kernel
theorem d_Net_addState_46 : decode b_Net_addState 46 = .ok (.iload_n 1, 1) := by decide +kernel
theorem d_Net_addState_47 : decode b_Net_addState 47 = .ok (.iadd, 1) := by decide +kernel
theorem d_Net_addState_48 : decode b_Net_addState 48 = .ok (.putfield 63, 3) := by decide +kernel
theorem d_Net_addState_51 : decode b_Net_addState 51 = .ok (.aload_n 0, 1) := by decide +kernel
theorem d_Net_addState_52 : decode b_Net_addState 52 = .ok (.dup, 1) := by decide +kernel
theorem d_Net_addState_53 : decode b_Net_addState 53 = .ok (.getfield 40, 3) := by decide +kernel
theorem d_Net_addState_56 : decode b_Net_addState 56 = .ok (.iconst 1, 1) := by decide +kernel
theorem d_Net_addState_57 : decode b_Net_addState 57 = .ok (.iadd, 1) := by decide +kernel
theorem d_Net_addState_58 : decode b_Net_addState 58 = .ok (.putfield 40, 3) := by decide +kernel
theorem d_Net_addState_61 : decode b_Net_addState 61 = .ok (.iload_n 3, 1) := by decide +kernel
theorem d_Net_addState_62 : decode b_Net_addState 62 = .ok (.ireturn, 1) := by decide +kernel
theorem d_Net_addNode_0 : decode b_Net_addNode 0 = .ok (.aload_n 0, 1) := by decide +kernel
theorem d_Net_addNode_1 : decode b_Net_addNode 1 = .ok (.getfield 37, 3) := by decide +kernel
theorem d_Net_addNode_4 : decode b_Net_addNode 4 = .ok (.istore 4, 2) := by decide +kernel
theorem d_Net_addNode_6 : decode b_Net_addNode 6 = .ok (.aload_n 0, 1) := by decide +kernel
theorem d_Net_addNode_7 : decode b_Net_addNode 7 = .ok (.getfield 11, 3) := by decide +kernel
theorem d_Net_addNode_10 : decode b_Net_addNode 10 = .ok (.iload 4, 2) := by decide +kernel
theorem d_Net_addNode_12 : decode b_Net_addNode 12 = .ok (.iload_n 1, 1) := by decide +kernel
theorem d_Net_addNode_13 : decode b_Net_addNode 13 = .ok (.iastore, 1) := by decide +kernel
theorem d_Net_addNode_14 : decode b_Net_addNode 14 = .ok (.aload_n 0, 1) := by decide +kernel
theorem d_Net_addNode_15 : decode b_Net_addNode 15 = .ok (.getfield 15, 3) := by decide +kernel
theorem d_Net_addNode_18 : decode b_Net_addNode 18 = .ok (.iload 4, 2) := by decide +kernel
theorem d_Net_addNode_20 : decode b_Net_addNode 20 = .ok (.iload_n 2, 1) := by decide +kernel
theorem d_Net_addNode_21 : decode b_Net_addNode 21 = .ok (.iastore, 1) := by decide +kernel
theorem d_Net_addNode_22 : decode b_Net_addNode 22 = .ok (.aload_n 0, 1) := by decide +kernel
theorem d_Net_addNode_23 : decode b_Net_addNode 23 = .ok (.getfield 18, 3) := by decide +kernel
theorem d_Net_addNode_26 : decode b_Net_addNode 26 = .ok (.iload 4, 2) := by decide +kernel
theorem d_Net_addNode_28 : decode b_Net_addNode 28 = .ok (.iload_n 3, 1) := by decide +kernel
theorem d_Net_addNode_29 : decode b_Net_addNode 29 = .ok (.iastore, 1) := by decide +kernel
theorem d_Net_addNode_30 : decode b_Net_addNode 30 = .ok (.aload_n 0, 1) := by decide +kernel
theorem d_Net_addNode_31 : decode b_Net_addNode 31 = .ok (.dup, 1) := by decide +kernel
theorem d_Net_addNode_32 : decode b_Net_addNode 32 = .ok (.getfield 37, 3) := by decide +kernel
theorem d_Net_addNode_35 : decode b_Net_addNode 35 = .ok (.iconst 1, 1) := by decide +kernel
theorem d_Net_addNode_36 : decode b_Net_addNode 36 = .ok (.iadd, 1) := by decide +kernel
theorem d_Net_addNode_37 : decode b_Net_addNode 37 = .ok (.putfield 37, 3) := by decide +kernel
theorem d_Net_addNode_40 : decode b_Net_addNode 40 = .ok (.iload 4, 2) := by decide +kernel
theorem d_Net_addNode_42 : decode b_Net_addNode 42 = .ok (.ireturn, 1) := by decide +kernel
theorem d_Net_takesGate_0 : decode b_Net_takesGate 0 = .ok (.iload_n 1, 1) := by decide +kernel
theorem d_Net_takesGate_1 : decode b_Net_takesGate 1 = .ok (.ifCond .lt 8, 3) := by decide +kernel
theorem d_Net_takesGate_4 : decode b_Net_takesGate 4 = .ok (.iload_n 1, 1) := by decide +kernel
theorem d_Net_takesGate_5 : decode b_Net_takesGate 5 = .ok (.iconst 5, 1) := by decide +kernel
theorem d_Net_takesGate_6 : decode b_Net_takesGate 6 = .ok (.if_icmp .le 5, 3) := by decide +kernel
theorem d_Net_takesGate_9 : decode b_Net_takesGate 9 = .ok (.iconst 0, 1) := by decide +kernel
theorem d_Net_takesGate_10 : decode b_Net_takesGate 10 = .ok (.ireturn, 1) := by decide +kernel
theorem d_Net_takesGate_11 : decode b_Net_takesGate 11 = .ok (.iload_n 1, 1) := by decide +kernel
theorem d_Net_takesGate_12 : decode b_Net_takesGate 12 = .ok (.invokestatic 50, 3) := by decide +kernel
theorem d_Net_takesGate_15 : decode b_Net_takesGate 15 = .ok (.ifCond .eq 11, 3) := by decide +kernel
theorem d_Net_takesGate_18 : decode b_Net_takesGate 18 = .ok (.aload_n 0, 1) := by decide +kernel
theorem d_Net_takesGate_19 : decode b_Net_takesGate 19 = .ok (.iload_n 2, 1) := by decide +kernel
theorem d_Net_takesGate_20 : decode b_Net_takesGate 20 = .ok (.invokevirtual 46, 3) := by decide +kernel
theorem d_Net_takesGate_23 : decode b_Net_takesGate 23 = .ok (.ifCond .eq 22, 3) := by decide +kernel
theorem d_Net_takesGate_26 : decode b_Net_takesGate 26 = .ok (.iload_n 1, 1) := by decide +kernel
theorem d_Net_takesGate_27 : decode b_Net_takesGate 27 = .ok (.invokestatic 53, 3) := by decide +kernel
theorem d_Net_takesGate_30 : decode b_Net_takesGate 30 = .ok (.ifCond .eq 11, 3) := by decide +kernel
theorem d_Net_takesGate_33 : decode b_Net_takesGate 33 = .ok (.aload_n 0, 1) := by decide +kernel
theorem d_Net_takesGate_34 : decode b_Net_takesGate 34 = .ok (.iload_n 3, 1) := by decide +kernel
theorem d_Net_takesGate_35 : decode b_Net_takesGate 35 = .ok (.invokevirtual 46, 3) := by decide +kernel
theorem d_Net_takesGate_38 : decode b_Net_takesGate 38 = .ok (.ifCond .eq 7, 3) := by decide +kernel
theorem d_Net_takesGate_41 : decode b_Net_takesGate 41 = .ok (.iconst 1, 1) := by decide +kernel
theorem d_Net_takesGate_42 : decode b_Net_takesGate 42 = .ok (.goto 4, 3) := by decide +kernel
theorem d_Net_takesGate_45 : decode b_Net_takesGate 45 = .ok (.iconst 0, 1) := by decide +kernel
theorem d_Net_takesGate_46 : decode b_Net_takesGate 46 = .ok (.ireturn, 1) := by decide +kernel
theorem d_Net_wantsLeft_0 : decode b_Net_wantsLeft 0 = .ok (.iload_n 0, 1) := by decide +kernel
theorem d_Net_wantsLeft_1 : decode b_Net_wantsLeft 1 = .ok (.iconst 3, 1) := by decide +kernel
theorem d_Net_wantsLeft_2 : decode b_Net_wantsLeft 2 = .ok (.if_icmp .gt 7, 3) := by decide +kernel
theorem d_Net_wantsLeft_5 : decode b_Net_wantsLeft 5 = .ok (.iconst 1, 1) := by decide +kernel
theorem d_Net_wantsLeft_6 : decode b_Net_wantsLeft 6 = .ok (.goto 4, 3) := by decide +kernel
theorem d_Net_wantsLeft_9 : decode b_Net_wantsLeft 9 = .ok (.iconst 0, 1) := by decide +kernel
theorem d_Net_wantsLeft_10 : decode b_Net_wantsLeft 10 = .ok (.ireturn, 1) := by decide +kernel
theorem d_Net_isNode_0 : decode b_Net_isNode 0 = .ok (.iload_n 1, 1) := by decide +kernel
theorem d_Net_isNode_1 : decode b_Net_isNode 1 = .ok (.ifCond .lt 15, 3) := by decide +kernel
theorem d_Net_isNode_4 : decode b_Net_isNode 4 = .ok (.iload_n 1, 1) := by decide +kernel
theorem d_Net_isNode_5 : decode b_Net_isNode 5 = .ok (.aload_n 0, 1) := by decide +kernel
theorem d_Net_isNode_6 : decode b_Net_isNode 6 = .ok (.getfield 37, 3) := by decide +kernel
theorem d_Net_isNode_9 : decode b_Net_isNode 9 = .ok (.if_icmp .ge 7, 3) := by decide +kernel
theorem d_Net_isNode_12 : decode b_Net_isNode 12 = .ok (.iconst 1, 1) := by decide +kernel
theorem d_Net_isNode_13 : decode b_Net_isNode 13 = .ok (.goto 4, 3) := by decide +kernel
theorem d_Net_isNode_16 : decode b_Net_isNode 16 = .ok (.iconst 0, 1) := by decide +kernel
theorem d_Net_isNode_17 : decode b_Net_isNode 17 = .ok (.ireturn, 1) := by decide +kernel
theorem d_Net_wantsRight_0 : decode b_Net_wantsRight 0 = .ok (.iload_n 0, 1) := by decide +kernel
theorem d_Net_wantsRight_1 : decode b_Net_wantsRight 1 = .ok (.iconst 3, 1) := by decide +kernel
theorem d_Net_wantsRight_2 : decode b_Net_wantsRight 2 = .ok (.if_icmp .ge 7, 3) := by decide +kernel
theorem d_Net_wantsRight_5 : decode b_Net_wantsRight 5 = .ok (.iconst 1, 1) := by decide +kernel
theorem d_Net_wantsRight_6 : decode b_Net_wantsRight 6 = .ok (.goto 4, 3) := by decide +kernel
theorem d_Net_wantsRight_9 : decode b_Net_wantsRight 9 = .ok (.iconst 0, 1) := by decide +kernel
theorem d_Net_wantsRight_10 : decode b_Net_wantsRight 10 = .ok (.ireturn, 1) := by decide +kernel
theorem d_Net_addGate_0 : decode b_Net_addGate 0 = .ok (.aload_n 0, 1) := by decide +kernel
theorem d_Net_addGate_1 : decode b_Net_addGate 1 = .ok (.iload_n 1, 1) := by decide +kernel
theorem d_Net_addGate_2 : decode b_Net_addGate 2 = .ok (.iload_n 1, 1) := by decide +kernel
theorem d_Net_addGate_3 : decode b_Net_addGate 3 = .ok (.invokestatic 50, 3) := by decide +kernel
theorem d_Net_addGate_6 : decode b_Net_addGate 6 = .ok (.ifCond .eq 7, 3) := by decide +kernel
theorem d_Net_addGate_9 : decode b_Net_addGate 9 = .ok (.iload_n 2, 1) := by decide +kernel
theorem d_Net_addGate_10 : decode b_Net_addGate 10 = .ok (.goto 4, 3) := by decide +kernel
theorem d_Net_addGate_13 : decode b_Net_addGate 13 = .ok (.iconst 0, 1) := by decide +kernel
theorem d_Net_addGate_14 : decode b_Net_addGate 14 = .ok (.iload_n 1, 1) := by decide +kernel
theorem d_Net_addGate_15 : decode b_Net_addGate 15 = .ok (.invokestatic 53, 3) := by decide +kernel
theorem d_Net_addGate_18 : decode b_Net_addGate 18 = .ok (.ifCond .eq 7, 3) := by decide +kernel
theorem d_Net_addGate_21 : decode b_Net_addGate 21 = .ok (.iload_n 3, 1) := by decide +kernel
theorem d_Net_addGate_22 : decode b_Net_addGate 22 = .ok (.goto 4, 3) := by decide +kernel
theorem d_Net_addGate_25 : decode b_Net_addGate 25 = .ok (.iconst 0, 1) := by decide +kernel
theorem d_Net_addGate_26 : decode b_Net_addGate 26 = .ok (.invokevirtual 56, 3) := by decide +kernel
theorem d_Net_addGate_29 : decode b_Net_addGate 29 = .ok (.ireturn, 1) := by decide +kernel
theorem d_Net_isState_0 : decode b_Net_isState 0 = .ok (.aload_n 0, 1) := by decide +kernel
theorem d_Net_isState_1 : decode b_Net_isState 1 = .ok (.iload_n 1, 1) := by decide +kernel
theorem d_Net_isState_2 : decode b_Net_isState 2 = .ok (.invokevirtual 46, 3) := by decide +kernel
theorem d_Net_isState_5 : decode b_Net_isState 5 = .ok (.ifCond .eq 18, 3) := by decide +kernel
theorem d_Net_isState_8 : decode b_Net_isState 8 = .ok (.aload_n 0, 1) := by decide +kernel
theorem d_Net_isState_9 : decode b_Net_isState 9 = .ok (.getfield 11, 3) := by decide +kernel
theorem d_Net_isState_12 : decode b_Net_isState 12 = .ok (.iload_n 1, 1) := by decide +kernel
theorem d_Net_isState_13 : decode b_Net_isState 13 = .ok (.iaload, 1) := by decide +kernel
theorem d_Net_isState_14 : decode b_Net_isState 14 = .ok (.bipush 7, 2) := by decide +kernel
theorem d_Net_isState_16 : decode b_Net_isState 16 = .ok (.if_icmp .ne 7, 3) := by decide +kernel
theorem d_Net_isState_19 : decode b_Net_isState 19 = .ok (.iconst 1, 1) := by decide +kernel
theorem d_Net_isState_20 : decode b_Net_isState 20 = .ok (.goto 4, 3) := by decide +kernel
theorem d_Net_isState_23 : decode b_Net_isState 23 = .ok (.iconst 0, 1) := by decide +kernel
theorem d_Net_isState_24 : decode b_Net_isState 24 = .ok (.ireturn, 1) := by decide +kernel
theorem d_Net_changeNext_0 : decode b_Net_changeNext 0 = .ok (.aload_n 0, 1) := by decide +kernel
theorem d_Net_changeNext_1 : decode b_Net_changeNext 1 = .ok (.getfield 15, 3) := by decide +kernel
theorem d_Net_changeNext_4 : decode b_Net_changeNext 4 = .ok (.iload_n 1, 1) := by decide +kernel
theorem d_Net_changeNext_5 : decode b_Net_changeNext 5 = .ok (.iaload, 1) := by decide +kernel
theorem d_Net_changeNext_6 : decode b_Net_changeNext 6 = .ok (.istore_n 3, 1) := by decide +kernel
theorem d_Net_changeNext_7 : decode b_Net_changeNext 7 = .ok (.aload_n 0, 1) := by decide +kernel
theorem d_Net_changeNext_8 : decode b_Net_changeNext 8 = .ok (.getfield 21, 3) := by decide +kernel
theorem d_Net_changeNext_11 : decode b_Net_changeNext 11 = .ok (.iload_n 3, 1) := by decide +kernel
theorem d_Net_changeNext_12 : decode b_Net_changeNext 12 = .ok (.iaload, 1) := by decide +kernel
theorem d_Net_changeNext_13 : decode b_Net_changeNext 13 = .ok (.istore 4, 2) := by decide +kernel
theorem d_Net_changeNext_15 : decode b_Net_changeNext 15 = .ok (.aload_n 0, 1) := by decide +kernel
theorem d_Net_changeNext_16 : decode b_Net_changeNext 16 = .ok (.getfield 21, 3) := by decide +kernel
theorem d_Net_changeNext_19 : decode b_Net_changeNext 19 = .ok (.iload_n 3, 1) := by decide +kernel
theorem d_Net_changeNext_20 : decode b_Net_changeNext 20 = .ok (.iload_n 2, 1) := by decide +kernel
theorem d_Net_changeNext_21 : decode b_Net_changeNext 21 = .ok (.iastore, 1) := by decide +kernel
theorem d_Net_changeNext_22 : decode b_Net_changeNext 22 = .ok (.iload 4, 2) := by decide +kernel
theorem d_Net_changeNext_24 : decode b_Net_changeNext 24 = .ok (.ireturn, 1) := by decide +kernel
theorem d_Net_hasAllPairs_0 : decode b_Net_hasAllPairs 0 = .ok (.aload_n 0, 1) := by decide +kernel
theorem d_Net_hasAllPairs_1 : decode b_Net_hasAllPairs 1 = .ok (.getfield 43, 3) := by decide +kernel
theorem d_Net_hasAllPairs_4 : decode b_Net_hasAllPairs 4 = .ok (.bipush 16, 2) := by decide +kernel
theorem d_Net_hasAllPairs_6 : decode b_Net_hasAllPairs 6 = .ok (.if_icmp .lt 7, 3) := by decide +kernel
theorem d_Net_hasAllPairs_9 : decode b_Net_hasAllPairs 9 = .ok (.iconst 1, 1) := by decide +kernel
theorem d_Net_hasAllPairs_10 : decode b_Net_hasAllPairs 10 = .ok (.goto 4, 3) := by decide +kernel
theorem d_Net_hasAllPairs_13 : decode b_Net_hasAllPairs 13 = .ok (.iconst 0, 1) := by decide +kernel
theorem d_Net_hasAllPairs_14 : decode b_Net_hasAllPairs 14 = .ok (.ireturn, 1) := by decide +kernel
theorem d_Net_addPair_0 : decode b_Net_addPair 0 = .ok (.aload_n 0, 1) := by decide +kernel
theorem d_Net_addPair_1 : decode b_Net_addPair 1 = .ok (.getfield 24, 3) := by decide +kernel
theorem d_Net_addPair_4 : decode b_Net_addPair 4 = .ok (.aload_n 0, 1) := by decide +kernel
theorem d_Net_addPair_5 : decode b_Net_addPair 5 = .ok (.getfield 43, 3) := by decide +kernel
theorem d_Net_addPair_8 : decode b_Net_addPair 8 = .ok (.iload_n 1, 1) := by decide +kernel
theorem d_Net_addPair_9 : decode b_Net_addPair 9 = .ok (.iastore, 1) := by decide +kernel
theorem d_Net_addPair_10 : decode b_Net_addPair 10 = .ok (.aload_n 0, 1) := by decide +kernel
theorem d_Net_addPair_11 : decode b_Net_addPair 11 = .ok (.getfield 27, 3) := by decide +kernel
theorem d_Net_addPair_14 : decode b_Net_addPair 14 = .ok (.aload_n 0, 1) := by decide +kernel
theorem d_Net_addPair_15 : decode b_Net_addPair 15 = .ok (.getfield 43, 3) := by decide +kernel
theorem d_Net_addPair_18 : decode b_Net_addPair 18 = .ok (.iload_n 2, 1) := by decide +kernel
theorem d_Net_addPair_19 : decode b_Net_addPair 19 = .ok (.iastore, 1) := by decide +kernel
theorem d_Net_addPair_20 : decode b_Net_addPair 20 = .ok (.aload_n 0, 1) := by decide +kernel
theorem d_Net_addPair_21 : decode b_Net_addPair 21 = .ok (.dup, 1) := by decide +kernel
theorem d_Net_addPair_22 : decode b_Net_addPair 22 = .ok (.getfield 43, 3) := by decide +kernel
theorem d_Net_addPair_25 : decode b_Net_addPair 25 = .ok (.iconst 1, 1) := by decide +kernel
theorem d_Net_addPair_26 : decode b_Net_addPair 26 = .ok (.iadd, 1) := by decide +kernel
theorem d_Net_addPair_27 : decode b_Net_addPair 27 = .ok (.putfield 43, 3) := by decide +kernel
theorem d_Net_addPair_30 : decode b_Net_addPair 30 = .ok (.return_, 1) := by decide +kernel
theorem d_Net_leastDifferingWord_0 : decode b_Net_leastDifferingWord 0 = .ok (.iconst 0, 1) := by decide +kernel
theorem d_Net_leastDifferingWord_1 : decode b_Net_leastDifferingWord 1 = .ok (.istore_n 2, 1) := by decide +kernel
theorem d_Net_leastDifferingWord_2 : decode b_Net_leastDifferingWord 2 = .ok (.iconst 0, 1) := by decide +kernel
theorem d_Net_leastDifferingWord_3 : decode b_Net_leastDifferingWord 3 = .ok (.istore_n 3, 1) := by decide +kernel
theorem d_Net_leastDifferingWord_4 : decode b_Net_leastDifferingWord 4 = .ok (.iload_n 3, 1) := by decide +kernel
theorem d_Net_leastDifferingWord_5 : decode b_Net_leastDifferingWord 5 = .ok (.aload_n 0, 1) := by decide +kernel
theorem d_Net_leastDifferingWord_6 : decode b_Net_leastDifferingWord 6 = .ok (.getfield 43, 3) := by decide +kernel
theorem d_Net_leastDifferingWord_9 : decode b_Net_leastDifferingWord 9 = .ok (.if_icmp .ge 29, 3) := by decide +kernel
theorem d_Net_leastDifferingWord_12 : decode b_Net_leastDifferingWord 12 = .ok (.iload_n 2, 1) := by decide +kernel
theorem d_Net_leastDifferingWord_13 : decode b_Net_leastDifferingWord 13 = .ok (.aload_n 1, 1) := by decide +kernel
theorem d_Net_leastDifferingWord_14 : decode b_Net_leastDifferingWord 14 = .ok (.aload_n 0, 1) := by decide +kernel
theorem d_Net_leastDifferingWord_15 : decode b_Net_leastDifferingWord 15 = .ok (.getfield 24, 3) := by decide +kernel
theorem d_Net_leastDifferingWord_18 : decode b_Net_leastDifferingWord 18 = .ok (.iload_n 3, 1) := by decide +kernel
theorem d_Net_leastDifferingWord_19 : decode b_Net_leastDifferingWord 19 = .ok (.iaload, 1) := by decide +kernel
theorem d_Net_leastDifferingWord_20 : decode b_Net_leastDifferingWord 20 = .ok (.iaload, 1) := by decide +kernel
theorem d_Net_leastDifferingWord_21 : decode b_Net_leastDifferingWord 21 = .ok (.aload_n 1, 1) := by decide +kernel
theorem d_Net_leastDifferingWord_22 : decode b_Net_leastDifferingWord 22 = .ok (.aload_n 0, 1) := by decide +kernel
theorem d_Net_leastDifferingWord_23 : decode b_Net_leastDifferingWord 23 = .ok (.getfield 27, 3) := by decide +kernel
theorem d_Net_leastDifferingWord_26 : decode b_Net_leastDifferingWord 26 = .ok (.iload_n 3, 1) := by decide +kernel
theorem d_Net_leastDifferingWord_27 : decode b_Net_leastDifferingWord 27 = .ok (.iaload, 1) := by decide +kernel
theorem d_Net_leastDifferingWord_28 : decode b_Net_leastDifferingWord 28 = .ok (.iaload, 1) := by decide +kernel
theorem d_Net_leastDifferingWord_29 : decode b_Net_leastDifferingWord 29 = .ok (.ixor, 1) := by decide +kernel
theorem d_Net_leastDifferingWord_30 : decode b_Net_leastDifferingWord 30 = .ok (.ior, 1) := by decide +kernel
theorem d_Net_leastDifferingWord_31 : decode b_Net_leastDifferingWord 31 = .ok (.istore_n 2, 1) := by decide +kernel
theorem d_Net_leastDifferingWord_32 : decode b_Net_leastDifferingWord 32 = .ok (.iinc 3 1, 3) := by decide +kernel
theorem d_Net_leastDifferingWord_35 : decode b_Net_leastDifferingWord 35 = .ok (.goto (-31), 3) := by decide +kernel
theorem d_Net_leastDifferingWord_38 : decode b_Net_leastDifferingWord 38 = .ok (.iconst 0, 1) := by decide +kernel
theorem d_Net_leastDifferingWord_39 : decode b_Net_leastDifferingWord 39 = .ok (.istore_n 3, 1) := by decide +kernel
theorem d_Net_leastDifferingWord_40 : decode b_Net_leastDifferingWord 40 = .ok (.iload_n 3, 1) := by decide +kernel
theorem d_Net_leastDifferingWord_41 : decode b_Net_leastDifferingWord 41 = .ok (.aload_n 0, 1) := by decide +kernel
theorem d_Net_leastDifferingWord_42 : decode b_Net_leastDifferingWord 42 = .ok (.getfield 34, 3) := by decide +kernel
theorem d_Net_leastDifferingWord_45 : decode b_Net_leastDifferingWord 45 = .ok (.if_icmp .ge 19, 3) := by decide +kernel
theorem d_Net_leastDifferingWord_48 : decode b_Net_leastDifferingWord 48 = .ok (.iload_n 2, 1) := by decide +kernel
theorem d_Net_leastDifferingWord_49 : decode b_Net_leastDifferingWord 49 = .ok (.iload_n 3, 1) := by decide +kernel
theorem d_Net_leastDifferingWord_50 : decode b_Net_leastDifferingWord 50 = .ok (.ishr, 1) := by decide +kernel
theorem d_Net_leastDifferingWord_51 : decode b_Net_leastDifferingWord 51 = .ok (.iconst 1, 1) := by decide +kernel
theorem d_Net_leastDifferingWord_52 : decode b_Net_leastDifferingWord 52 = .ok (.iand, 1) := by decide +kernel
theorem d_Net_leastDifferingWord_53 : decode b_Net_leastDifferingWord 53 = .ok (.ifCond .eq 5, 3) := by decide +kernel
theorem d_Net_leastDifferingWord_56 : decode b_Net_leastDifferingWord 56 = .ok (.iload_n 3, 1) := by decide +kernel
theorem d_Net_leastDifferingWord_57 : decode b_Net_leastDifferingWord 57 = .ok (.ireturn, 1) := by decide +kernel
theorem d_Net_leastDifferingWord_58 : decode b_Net_leastDifferingWord 58 = .ok (.iinc 3 1, 3) := by decide +kernel
theorem d_Net_leastDifferingWord_61 : decode b_Net_leastDifferingWord 61 = .ok (.goto (-21), 3) := by decide +kernel
theorem d_Net_leastDifferingWord_64 : decode b_Net_leastDifferingWord 64 = .ok (.iconst (-1), 1) := by decide +kernel
theorem d_Net_leastDifferingWord_65 : decode b_Net_leastDifferingWord 65 = .ok (.ireturn, 1) := by decide +kernel
theorem d_Hand_truthOf_0 : decode b_Hand_truthOf 0 = .ok (.aload_n 0, 1) := by decide +kernel
theorem d_Hand_truthOf_1 : decode b_Hand_truthOf 1 = .ok (.getfield 11, 3) := by decide +kernel
theorem d_Hand_truthOf_4 : decode b_Hand_truthOf 4 = .ok (.iload_n 1, 1) := by decide +kernel
theorem d_Hand_truthOf_5 : decode b_Hand_truthOf 5 = .ok (.iaload, 1) := by decide +kernel
theorem d_Hand_truthOf_6 : decode b_Hand_truthOf 6 = .ok (.aload_n 0, 1) := by decide +kernel
theorem d_Hand_truthOf_7 : decode b_Hand_truthOf 7 = .ok (.getfield 31, 3) := by decide +kernel
theorem d_Hand_truthOf_10 : decode b_Hand_truthOf 10 = .ok (.ishr, 1) := by decide +kernel
theorem d_Hand_truthOf_11 : decode b_Hand_truthOf 11 = .ok (.iconst 1, 1) := by decide +kernel
theorem d_Hand_truthOf_12 : decode b_Hand_truthOf 12 = .ok (.iand, 1) := by decide +kernel
theorem d_Hand_truthOf_13 : decode b_Hand_truthOf 13 = .ok (.ifCond .eq 7, 3) := by decide +kernel
theorem d_Hand_truthOf_16 : decode b_Hand_truthOf 16 = .ok (.iconst 1, 1) := by decide +kernel
theorem d_Hand_truthOf_17 : decode b_Hand_truthOf 17 = .ok (.goto 4, 3) := by decide +kernel
theorem d_Hand_truthOf_20 : decode b_Hand_truthOf 20 = .ok (.iconst 0, 1) := by decide +kernel
theorem d_Hand_truthOf_21 : decode b_Hand_truthOf 21 = .ok (.ireturn, 1) := by decide +kernel
