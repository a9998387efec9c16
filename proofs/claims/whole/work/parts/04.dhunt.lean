-- ===== decode rows =====
theorem d_Hunt_init_0 : decode b_Hunt_init 0 = .ok (.aload_n 0, 1) := by decide +kernel
theorem d_Hunt_init_1 : decode b_Hunt_init 1 = .ok (.invokespecial 5, 3) := by decide +kernel
theorem d_Hunt_init_4 : decode b_Hunt_init 4 = .ok (.aload_n 0, 1) := by decide +kernel
theorem d_Hunt_init_5 : decode b_Hunt_init 5 = .ok (.bipush 100, 2) := by decide +kernel
theorem d_Hunt_init_7 : decode b_Hunt_init 7 = .ok (.newarray .int, 2) := by decide +kernel
theorem d_Hunt_init_9 : decode b_Hunt_init 9 = .ok (.putfield 11, 3) := by decide +kernel
theorem d_Hunt_init_12 : decode b_Hunt_init 12 = .ok (.aload_n 0, 1) := by decide +kernel
theorem d_Hunt_init_13 : decode b_Hunt_init 13 = .ok (.sipush 16384, 3) := by decide +kernel
theorem d_Hunt_init_16 : decode b_Hunt_init 16 = .ok (.newarray .int, 2) := by decide +kernel
theorem d_Hunt_init_18 : decode b_Hunt_init 18 = .ok (.putfield 17, 3) := by decide +kernel
theorem d_Hunt_init_21 : decode b_Hunt_init 21 = .ok (.aload_n 0, 1) := by decide +kernel
theorem d_Hunt_init_22 : decode b_Hunt_init 22 = .ok (.sipush 16384, 3) := by decide +kernel
theorem d_Hunt_init_25 : decode b_Hunt_init 25 = .ok (.newarray .int, 2) := by decide +kernel
theorem d_Hunt_init_27 : decode b_Hunt_init 27 = .ok (.putfield 20, 3) := by decide +kernel
theorem d_Hunt_init_30 : decode b_Hunt_init 30 = .ok (.aload_n 0, 1) := by decide +kernel
theorem d_Hunt_init_31 : decode b_Hunt_init 31 = .ok (.sipush 16386, 3) := by decide +kernel
theorem d_Hunt_init_34 : decode b_Hunt_init 34 = .ok (.newarray .int, 2) := by decide +kernel
theorem d_Hunt_init_36 : decode b_Hunt_init 36 = .ok (.putfield 23, 3) := by decide +kernel
theorem d_Hunt_init_39 : decode b_Hunt_init 39 = .ok (.aload_n 0, 1) := by decide +kernel
theorem d_Hunt_init_40 : decode b_Hunt_init 40 = .ok (.sipush 16384, 3) := by decide +kernel
theorem d_Hunt_init_43 : decode b_Hunt_init 43 = .ok (.newarray .int, 2) := by decide +kernel
theorem d_Hunt_init_45 : decode b_Hunt_init 45 = .ok (.putfield 26, 3) := by decide +kernel
theorem d_Hunt_init_48 : decode b_Hunt_init 48 = .ok (.aload_n 0, 1) := by decide +kernel
theorem d_Hunt_init_49 : decode b_Hunt_init 49 = .ok (.sipush 512, 3) := by decide +kernel
theorem d_Hunt_init_52 : decode b_Hunt_init 52 = .ok (.newarray .int, 2) := by decide +kernel
theorem d_Hunt_init_54 : decode b_Hunt_init 54 = .ok (.putfield 29, 3) := by decide +kernel
theorem d_Hunt_init_57 : decode b_Hunt_init 57 = .ok (.aload_n 0, 1) := by decide +kernel
theorem d_Hunt_init_58 : decode b_Hunt_init 58 = .ok (.iconst (-1), 1) := by decide +kernel
theorem d_Hunt_init_59 : decode b_Hunt_init 59 = .ok (.putfield 32, 3) := by decide +kernel
theorem d_Hunt_init_62 : decode b_Hunt_init 62 = .ok (.aload_n 0, 1) := by decide +kernel
theorem d_Hunt_init_63 : decode b_Hunt_init 63 = .ok (.aload_n 1, 1) := by decide +kernel
theorem d_Hunt_init_64 : decode b_Hunt_init 64 = .ok (.putfield 36, 3) := by decide +kernel
theorem d_Hunt_init_67 : decode b_Hunt_init 67 = .ok (.return_, 1) := by decide +kernel
theorem d_Hunt_programWord_0 : decode b_Hunt_programWord 0 = .ok (.aload_n 0, 1) := by decide +kernel
theorem d_Hunt_programWord_1 : decode b_Hunt_programWord 1 = .ok (.getfield 26, 3) := by decide +kernel
theorem d_Hunt_programWord_4 : decode b_Hunt_programWord 4 = .ok (.iload_n 1, 1) := by decide +kernel
theorem d_Hunt_programWord_5 : decode b_Hunt_programWord 5 = .ok (.iaload, 1) := by decide +kernel
theorem d_Hunt_programWord_6 : decode b_Hunt_programWord 6 = .ok (.ireturn, 1) := by decide +kernel
theorem d_Hunt_forget_0 : decode b_Hunt_forget 0 = .ok (.aload_n 0, 1) := by decide +kernel
theorem d_Hunt_forget_1 : decode b_Hunt_forget 1 = .ok (.iconst 0, 1) := by decide +kernel
theorem d_Hunt_forget_2 : decode b_Hunt_forget 2 = .ok (.putfield 40, 3) := by decide +kernel
theorem d_Hunt_forget_5 : decode b_Hunt_forget 5 = .ok (.aload_n 0, 1) := by decide +kernel
theorem d_Hunt_forget_6 : decode b_Hunt_forget 6 = .ok (.iconst 0, 1) := by decide +kernel
theorem d_Hunt_forget_7 : decode b_Hunt_forget 7 = .ok (.putfield 43, 3) := by decide +kernel
theorem d_Hunt_forget_10 : decode b_Hunt_forget 10 = .ok (.aload_n 0, 1) := by decide +kernel
theorem d_Hunt_forget_11 : decode b_Hunt_forget 11 = .ok (.iconst (-1), 1) := by decide +kernel
theorem d_Hunt_forget_12 : decode b_Hunt_forget 12 = .ok (.putfield 32, 3) := by decide +kernel
theorem d_Hunt_forget_15 : decode b_Hunt_forget 15 = .ok (.return_, 1) := by decide +kernel
theorem d_Hunt_goOn_0 : decode b_Hunt_goOn 0 = .ok (.aload_n 0, 1) := by decide +kernel
theorem d_Hunt_goOn_1 : decode b_Hunt_goOn 1 = .ok (.getfield 40, 3) := by decide +kernel
theorem d_Hunt_goOn_4 : decode b_Hunt_goOn 4 = .ok (.ifCond .ne 7, 3) := by decide +kernel
theorem d_Hunt_goOn_7 : decode b_Hunt_goOn 7 = .ok (.aload_n 0, 1) := by decide +kernel
theorem d_Hunt_goOn_8 : decode b_Hunt_goOn 8 = .ok (.invokevirtual 46, 3) := by decide +kernel
theorem d_Hunt_goOn_11 : decode b_Hunt_goOn 11 = .ok (.aload_n 0, 1) := by decide +kernel
theorem d_Hunt_goOn_12 : decode b_Hunt_goOn 12 = .ok (.getfield 43, 3) := by decide +kernel
theorem d_Hunt_goOn_15 : decode b_Hunt_goOn 15 = .ok (.istore_n 2, 1) := by decide +kernel
theorem d_Hunt_goOn_16 : decode b_Hunt_goOn 16 = .ok (.iload_n 2, 1) := by decide +kernel
theorem d_Hunt_goOn_17 : decode b_Hunt_goOn 17 = .ok (.iload_n 1, 1) := by decide +kernel
theorem d_Hunt_goOn_18 : decode b_Hunt_goOn 18 = .ok (.if_icmp .ge 28, 3) := by decide +kernel
theorem d_Hunt_goOn_21 : decode b_Hunt_goOn 21 = .ok (.aload_n 0, 1) := by decide +kernel
theorem d_Hunt_goOn_22 : decode b_Hunt_goOn 22 = .ok (.getfield 32, 3) := by decide +kernel
theorem d_Hunt_goOn_25 : decode b_Hunt_goOn 25 = .ok (.iconst (-1), 1) := by decide +kernel
theorem d_Hunt_goOn_26 : decode b_Hunt_goOn 26 = .ok (.if_icmp .ne 20, 3) := by decide +kernel
theorem d_Hunt_goOn_29 : decode b_Hunt_goOn 29 = .ok (.aload_n 0, 1) := by decide +kernel
theorem d_Hunt_goOn_30 : decode b_Hunt_goOn 30 = .ok (.invokevirtual 49, 3) := by decide +kernel
theorem d_Hunt_goOn_33 : decode b_Hunt_goOn 33 = .ok (.ifCond .eq 13, 3) := by decide +kernel
theorem d_Hunt_goOn_36 : decode b_Hunt_goOn 36 = .ok (.aload_n 0, 1) := by decide +kernel
theorem d_Hunt_goOn_37 : decode b_Hunt_goOn 37 = .ok (.invokevirtual 53, 3) := by decide +kernel
theorem d_Hunt_goOn_40 : decode b_Hunt_goOn 40 = .ok (.iinc 2 1, 3) := by decide +kernel
theorem d_Hunt_goOn_43 : decode b_Hunt_goOn 43 = .ok (.goto (-27), 3) := by decide +kernel
theorem d_Hunt_goOn_46 : decode b_Hunt_goOn 46 = .ok (.return_, 1) := by decide +kernel
theorem d_Hunt_start_0 : decode b_Hunt_start 0 = .ok (.aload_n 0, 1) := by decide +kernel
theorem d_Hunt_start_1 : decode b_Hunt_start 1 = .ok (.getfield 29, 3) := by decide +kernel
theorem d_Hunt_start_4 : decode b_Hunt_start 4 = .ok (.iconst 0, 1) := by decide +kernel
theorem d_Hunt_start_5 : decode b_Hunt_start 5 = .ok (.invokestatic 56, 3) := by decide +kernel
theorem d_Hunt_start_8 : decode b_Hunt_start 8 = .ok (.aload_n 0, 1) := by decide +kernel
theorem d_Hunt_start_9 : decode b_Hunt_start 9 = .ok (.aload_n 0, 1) := by decide +kernel
theorem d_Hunt_start_10 : decode b_Hunt_start 10 = .ok (.getfield 36, 3) := by decide +kernel
theorem d_Hunt_start_13 : decode b_Hunt_start 13 = .ok (.getfield 62, 3) := by decide +kernel
theorem d_Hunt_start_16 : decode b_Hunt_start 16 = .ok (.iconst 0, 1) := by decide +kernel
theorem d_Hunt_start_17 : decode b_Hunt_start 17 = .ok (.iconst 0, 1) := by decide +kernel
theorem d_Hunt_start_18 : decode b_Hunt_start 18 = .ok (.invokevirtual 65, 3) := by decide +kernel
theorem d_Hunt_start_21 : decode b_Hunt_start 21 = .ok (.pop, 1) := by decide +kernel
theorem d_Hunt_start_22 : decode b_Hunt_start 22 = .ok (.aload_n 0, 1) := by decide +kernel
theorem d_Hunt_start_23 : decode b_Hunt_start 23 = .ok (.iconst 1, 1) := by decide +kernel
theorem d_Hunt_start_24 : decode b_Hunt_start 24 = .ok (.putfield 40, 3) := by decide +kernel
theorem d_Hunt_start_27 : decode b_Hunt_start 27 = .ok (.aload_n 0, 1) := by decide +kernel
theorem d_Hunt_start_28 : decode b_Hunt_start 28 = .ok (.getfield 23, 3) := by decide +kernel
theorem d_Hunt_start_31 : decode b_Hunt_start 31 = .ok (.iconst 0, 1) := by decide +kernel
theorem d_Hunt_start_32 : decode b_Hunt_start 32 = .ok (.iconst 0, 1) := by decide +kernel
theorem d_Hunt_start_33 : decode b_Hunt_start 33 = .ok (.iastore, 1) := by decide +kernel
theorem d_Hunt_start_34 : decode b_Hunt_start 34 = .ok (.aload_n 0, 1) := by decide +kernel
theorem d_Hunt_start_35 : decode b_Hunt_start 35 = .ok (.getfield 23, 3) := by decide +kernel
theorem d_Hunt_start_38 : decode b_Hunt_start 38 = .ok (.iconst 1, 1) := by decide +kernel
theorem d_Hunt_start_39 : decode b_Hunt_start 39 = .ok (.iconst 1, 1) := by decide +kernel
theorem d_Hunt_start_40 : decode b_Hunt_start 40 = .ok (.iastore, 1) := by decide +kernel
theorem d_Hunt_start_41 : decode b_Hunt_start 41 = .ok (.return_, 1) := by decide +kernel
theorem d_Hunt_keepIfNew_0 : decode b_Hunt_keepIfNew 0 = .ok (.iconst 1, 1) := by decide +kernel
theorem d_Hunt_keepIfNew_1 : decode b_Hunt_keepIfNew 1 = .ok (.iload_n 1, 1) := by decide +kernel
theorem d_Hunt_keepIfNew_2 : decode b_Hunt_keepIfNew 2 = .ok (.bipush 31, 2) := by decide +kernel
theorem d_Hunt_keepIfNew_4 : decode b_Hunt_keepIfNew 4 = .ok (.iand, 1) := by decide +kernel
theorem d_Hunt_keepIfNew_5 : decode b_Hunt_keepIfNew 5 = .ok (.ishl, 1) := by decide +kernel
theorem d_Hunt_keepIfNew_6 : decode b_Hunt_keepIfNew 6 = .ok (.istore 4, 2) := by decide +kernel
theorem d_Hunt_keepIfNew_8 : decode b_Hunt_keepIfNew 8 = .ok (.aload_n 0, 1) := by decide +kernel
theorem d_Hunt_keepIfNew_9 : decode b_Hunt_keepIfNew 9 = .ok (.getfield 29, 3) := by decide +kernel
theorem d_Hunt_keepIfNew_12 : decode b_Hunt_keepIfNew 12 = .ok (.iload_n 1, 1) := by decide +kernel
theorem d_Hunt_keepIfNew_13 : decode b_Hunt_keepIfNew 13 = .ok (.iconst 5, 1) := by decide +kernel
theorem d_Hunt_keepIfNew_14 : decode b_Hunt_keepIfNew 14 = .ok (.ishr, 1) := by decide +kernel
theorem d_Hunt_keepIfNew_15 : decode b_Hunt_keepIfNew 15 = .ok (.iaload, 1) := by decide +kernel
theorem d_Hunt_keepIfNew_16 : decode b_Hunt_keepIfNew 16 = .ok (.iload 4, 2) := by decide +kernel
theorem d_Hunt_keepIfNew_18 : decode b_Hunt_keepIfNew 18 = .ok (.iand, 1) := by decide +kernel
theorem d_Hunt_keepIfNew_19 : decode b_Hunt_keepIfNew 19 = .ok (.ifCond .eq 5, 3) := by decide +kernel
theorem d_Hunt_keepIfNew_22 : decode b_Hunt_keepIfNew 22 = .ok (.iconst 0, 1) := by decide +kernel
theorem d_Hunt_keepIfNew_23 : decode b_Hunt_keepIfNew 23 = .ok (.ireturn, 1) := by decide +kernel
theorem d_Hunt_keepIfNew_24 : decode b_Hunt_keepIfNew 24 = .ok (.aload_n 0, 1) := by decide +kernel
theorem d_Hunt_keepIfNew_25 : decode b_Hunt_keepIfNew 25 = .ok (.getfield 29, 3) := by decide +kernel
theorem d_Hunt_keepIfNew_28 : decode b_Hunt_keepIfNew 28 = .ok (.iload_n 1, 1) := by decide +kernel
theorem d_Hunt_keepIfNew_29 : decode b_Hunt_keepIfNew 29 = .ok (.iconst 5, 1) := by decide +kernel
theorem d_Hunt_keepIfNew_30 : decode b_Hunt_keepIfNew 30 = .ok (.ishr, 1) := by decide +kernel
theorem d_Hunt_keepIfNew_31 : decode b_Hunt_keepIfNew 31 = .ok (.dup2, 1) := by decide +kernel
theorem d_Hunt_keepIfNew_32 : decode b_Hunt_keepIfNew 32 = .ok (.iaload, 1) := by decide +kernel
theorem d_Hunt_keepIfNew_33 : decode b_Hunt_keepIfNew 33 = .ok (.iload 4, 2) := by decide +kernel
theorem d_Hunt_keepIfNew_35 : decode b_Hunt_keepIfNew 35 = .ok (.ior, 1) := by decide +kernel
theorem d_Hunt_keepIfNew_36 : decode b_Hunt_keepIfNew 36 = .ok (.iastore, 1) := by decide +kernel
theorem d_Hunt_keepIfNew_37 : decode b_Hunt_keepIfNew 37 = .ok (.aload_n 0, 1) := by decide +kernel
theorem d_Hunt_keepIfNew_38 : decode b_Hunt_keepIfNew 38 = .ok (.getfield 17, 3) := by decide +kernel
theorem d_Hunt_keepIfNew_41 : decode b_Hunt_keepIfNew 41 = .ok (.iload_n 2, 1) := by decide +kernel
theorem d_Hunt_keepIfNew_42 : decode b_Hunt_keepIfNew 42 = .ok (.iload_n 1, 1) := by decide +kernel
theorem d_Hunt_keepIfNew_43 : decode b_Hunt_keepIfNew 43 = .ok (.iastore, 1) := by decide +kernel
theorem d_Hunt_keepIfNew_44 : decode b_Hunt_keepIfNew 44 = .ok (.aload_n 0, 1) := by decide +kernel
theorem d_Hunt_keepIfNew_45 : decode b_Hunt_keepIfNew 45 = .ok (.getfield 20, 3) := by decide +kernel
theorem d_Hunt_keepIfNew_48 : decode b_Hunt_keepIfNew 48 = .ok (.iload_n 2, 1) := by decide +kernel
theorem d_Hunt_keepIfNew_49 : decode b_Hunt_keepIfNew 49 = .ok (.iload_n 3, 1) := by decide +kernel
theorem d_Hunt_keepIfNew_50 : decode b_Hunt_keepIfNew 50 = .ok (.iastore, 1) := by decide +kernel
theorem d_Hunt_keepIfNew_51 : decode b_Hunt_keepIfNew 51 = .ok (.iconst 1, 1) := by decide +kernel
theorem d_Hunt_keepIfNew_52 : decode b_Hunt_keepIfNew 52 = .ok (.ireturn, 1) := by decide +kernel
theorem d_Hunt_hasOpenLevel_0 : decode b_Hunt_hasOpenLevel 0 = .ok (.aload_n 0, 1) := by decide +kernel
theorem d_Hunt_hasOpenLevel_1 : decode b_Hunt_hasOpenLevel 1 = .ok (.aload_n 0, 1) := by decide +kernel
theorem d_Hunt_hasOpenLevel_2 : decode b_Hunt_hasOpenLevel 2 = .ok (.getfield 43, 3) := by decide +kernel
theorem d_Hunt_hasOpenLevel_5 : decode b_Hunt_hasOpenLevel 5 = .ok (.invokevirtual 69, 3) := by decide +kernel
theorem d_Hunt_hasOpenLevel_8 : decode b_Hunt_hasOpenLevel 8 = .ok (.ifCond .le 7, 3) := by decide +kernel
theorem d_Hunt_hasOpenLevel_11 : decode b_Hunt_hasOpenLevel 11 = .ok (.iconst 1, 1) := by decide +kernel
theorem d_Hunt_hasOpenLevel_12 : decode b_Hunt_hasOpenLevel 12 = .ok (.goto 4, 3) := by decide +kernel
theorem d_Hunt_hasOpenLevel_15 : decode b_Hunt_hasOpenLevel 15 = .ok (.iconst 0, 1) := by decide +kernel
theorem d_Hunt_hasOpenLevel_16 : decode b_Hunt_hasOpenLevel 16 = .ok (.ireturn, 1) := by decide +kernel
theorem d_Hunt_rowsOfLevel_0 : decode b_Hunt_rowsOfLevel 0 = .ok (.aload_n 0, 1) := by decide +kernel
theorem d_Hunt_rowsOfLevel_1 : decode b_Hunt_rowsOfLevel 1 = .ok (.getfield 40, 3) := by decide +kernel
theorem d_Hunt_rowsOfLevel_4 : decode b_Hunt_rowsOfLevel 4 = .ok (.ifCond .ne 7, 3) := by decide +kernel
theorem d_Hunt_rowsOfLevel_7 : decode b_Hunt_rowsOfLevel 7 = .ok (.iconst 0, 1) := by decide +kernel
theorem d_Hunt_rowsOfLevel_8 : decode b_Hunt_rowsOfLevel 8 = .ok (.goto 18, 3) := by decide +kernel
theorem d_Hunt_rowsOfLevel_11 : decode b_Hunt_rowsOfLevel 11 = .ok (.aload_n 0, 1) := by decide +kernel
theorem d_Hunt_rowsOfLevel_12 : decode b_Hunt_rowsOfLevel 12 = .ok (.getfield 23, 3) := by decide +kernel
theorem d_Hunt_rowsOfLevel_15 : decode b_Hunt_rowsOfLevel 15 = .ok (.iload_n 1, 1) := by decide +kernel
theorem d_Hunt_rowsOfLevel_16 : decode b_Hunt_rowsOfLevel 16 = .ok (.iconst 1, 1) := by decide +kernel
theorem d_Hunt_rowsOfLevel_17 : decode b_Hunt_rowsOfLevel 17 = .ok (.iadd, 1) := by decide +kernel
theorem d_Hunt_rowsOfLevel_18 : decode b_Hunt_rowsOfLevel 18 = .ok (.iaload, 1) := by decide +kernel
theorem d_Hunt_rowsOfLevel_19 : decode b_Hunt_rowsOfLevel 19 = .ok (.aload_n 0, 1) := by decide +kernel
theorem d_Hunt_rowsOfLevel_20 : decode b_Hunt_rowsOfLevel 20 = .ok (.getfield 23, 3) := by decide +kernel
theorem d_Hunt_rowsOfLevel_23 : decode b_Hunt_rowsOfLevel 23 = .ok (.iload_n 1, 1) := by decide +kernel
theorem d_Hunt_rowsOfLevel_24 : decode b_Hunt_rowsOfLevel 24 = .ok (.iaload, 1) := by decide +kernel
theorem d_Hunt_rowsOfLevel_25 : decode b_Hunt_rowsOfLevel 25 = .ok (.isub, 1) := by decide +kernel
theorem d_Hunt_rowsOfLevel_26 : decode b_Hunt_rowsOfLevel 26 = .ok (.ireturn, 1) := by decide +kernel
theorem d_Hunt_askLevel_0 : decode b_Hunt_askLevel 0 = .ok (.aload_n 0, 1) := by decide +kernel
theorem d_Hunt_askLevel_1 : decode b_Hunt_askLevel 1 = .ok (.getfield 40, 3) := by decide +kernel
theorem d_Hunt_askLevel_4 : decode b_Hunt_askLevel 4 = .ok (.istore_n 1, 1) := by decide +kernel
theorem d_Hunt_askLevel_5 : decode b_Hunt_askLevel 5 = .ok (.aload_n 0, 1) := by decide +kernel
theorem d_Hunt_askLevel_6 : decode b_Hunt_askLevel 6 = .ok (.getfield 23, 3) := by decide +kernel
theorem d_Hunt_askLevel_9 : decode b_Hunt_askLevel 9 = .ok (.aload_n 0, 1) := by decide +kernel
theorem d_Hunt_askLevel_10 : decode b_Hunt_askLevel 10 = .ok (.getfield 43, 3) := by decide +kernel
theorem d_Hunt_askLevel_13 : decode b_Hunt_askLevel 13 = .ok (.iaload, 1) := by decide +kernel
theorem d_Hunt_askLevel_14 : decode b_Hunt_askLevel 14 = .ok (.istore_n 2, 1) := by decide +kernel
theorem d_Hunt_askLevel_15 : decode b_Hunt_askLevel 15 = .ok (.iload_n 2, 1) := by decide +kernel
theorem d_Hunt_askLevel_16 : decode b_Hunt_askLevel 16 = .ok (.aload_n 0, 1) := by decide +kernel
theorem d_Hunt_askLevel_17 : decode b_Hunt_askLevel 17 = .ok (.getfield 40, 3) := by decide +kernel
theorem d_Hunt_askLevel_20 : decode b_Hunt_askLevel 20 = .ok (.if_icmp .ge 57, 3) := by decide +kernel
theorem d_Hunt_askLevel_23 : decode b_Hunt_askLevel 23 = .ok (.aload_n 0, 1) := by decide +kernel
theorem d_Hunt_askLevel_24 : decode b_Hunt_askLevel 24 = .ok (.getfield 36, 3) := by decide +kernel
theorem d_Hunt_askLevel_27 : decode b_Hunt_askLevel 27 = .ok (.aload_n 0, 1) := by decide +kernel
theorem d_Hunt_askLevel_28 : decode b_Hunt_askLevel 28 = .ok (.getfield 17, 3) := by decide +kernel
theorem d_Hunt_askLevel_31 : decode b_Hunt_askLevel 31 = .ok (.iload_n 2, 1) := by decide +kernel
theorem d_Hunt_askLevel_32 : decode b_Hunt_askLevel 32 = .ok (.iaload, 1) := by decide +kernel
theorem d_Hunt_askLevel_33 : decode b_Hunt_askLevel 33 = .ok (.aload_n 0, 1) := by decide +kernel
theorem d_Hunt_askLevel_34 : decode b_Hunt_askLevel 34 = .ok (.getfield 11, 3) := by decide +kernel
theorem d_Hunt_askLevel_37 : decode b_Hunt_askLevel 37 = .ok (.invokevirtual 73, 3) := by decide +kernel
theorem d_Hunt_askLevel_40 : decode b_Hunt_askLevel 40 = .ok (.aload_n 0, 1) := by decide +kernel
theorem d_Hunt_askLevel_41 : decode b_Hunt_askLevel 41 = .ok (.getfield 36, 3) := by decide +kernel
theorem d_Hunt_askLevel_44 : decode b_Hunt_askLevel 44 = .ok (.aload_n 0, 1) := by decide +kernel
theorem d_Hunt_askLevel_45 : decode b_Hunt_askLevel 45 = .ok (.getfield 11, 3) := by decide +kernel
theorem d_Hunt_askLevel_48 : decode b_Hunt_askLevel 48 = .ok (.invokevirtual 77, 3) := by decide +kernel
theorem d_Hunt_askLevel_51 : decode b_Hunt_askLevel 51 = .ok (.istore_n 3, 1) := by decide +kernel
theorem d_Hunt_askLevel_52 : decode b_Hunt_askLevel 52 = .ok (.iload_n 3, 1) := by decide +kernel
theorem d_Hunt_askLevel_53 : decode b_Hunt_askLevel 53 = .ok (.iconst (-1), 1) := by decide +kernel
theorem d_Hunt_askLevel_54 : decode b_Hunt_askLevel 54 = .ok (.if_icmp .eq 10, 3) := by decide +kernel
theorem d_Hunt_askLevel_57 : decode b_Hunt_askLevel 57 = .ok (.aload_n 0, 1) := by decide +kernel
theorem d_Hunt_askLevel_58 : decode b_Hunt_askLevel 58 = .ok (.iload_n 2, 1) := by decide +kernel
theorem d_Hunt_askLevel_59 : decode b_Hunt_askLevel 59 = .ok (.iload_n 3, 1) := by decide +kernel
theorem d_Hunt_askLevel_60 : decode b_Hunt_askLevel 60 = .ok (.invokevirtual 81, 3) := by decide +kernel
theorem d_Hunt_askLevel_63 : decode b_Hunt_askLevel 63 = .ok (.return_, 1) := by decide +kernel
theorem d_Hunt_askLevel_64 : decode b_Hunt_askLevel 64 = .ok (.aload_n 0, 1) := by decide +kernel
theorem d_Hunt_askLevel_65 : decode b_Hunt_askLevel 65 = .ok (.iload_n 2, 1) := by decide +kernel
theorem d_Hunt_askLevel_66 : decode b_Hunt_askLevel 66 = .ok (.iload_n 1, 1) := by decide +kernel
theorem d_Hunt_askLevel_67 : decode b_Hunt_askLevel 67 = .ok (.invokevirtual 85, 3) := by decide +kernel
theorem d_Hunt_askLevel_70 : decode b_Hunt_askLevel 70 = .ok (.istore_n 1, 1) := by decide +kernel
theorem d_Hunt_askLevel_71 : decode b_Hunt_askLevel 71 = .ok (.iinc 2 1, 3) := by decide +kernel
theorem d_Hunt_askLevel_74 : decode b_Hunt_askLevel 74 = .ok (.goto (-59), 3) := by decide +kernel
theorem d_Hunt_askLevel_77 : decode b_Hunt_askLevel 77 = .ok (.aload_n 0, 1) := by decide +kernel
theorem d_Hunt_askLevel_78 : decode b_Hunt_askLevel 78 = .ok (.dup, 1) := by decide +kernel
theorem d_Hunt_askLevel_79 : decode b_Hunt_askLevel 79 = .ok (.getfield 43, 3) := by decide +kernel
theorem d_Hunt_askLevel_82 : decode b_Hunt_askLevel 82 = .ok (.iconst 1, 1) := by decide +kernel
theorem d_Hunt_askLevel_83 : decode b_Hunt_askLevel 83 = .ok (.iadd, 1) := by decide +kernel
theorem d_Hunt_askLevel_84 : decode b_Hunt_askLevel 84 = .ok (.putfield 43, 3) := by decide +kernel
theorem d_Hunt_askLevel_87 : decode b_Hunt_askLevel 87 = .ok (.aload_n 0, 1) := by decide +kernel
theorem d_Hunt_askLevel_88 : decode b_Hunt_askLevel 88 = .ok (.iload_n 1, 1) := by decide +kernel
theorem d_Hunt_askLevel_89 : decode b_Hunt_askLevel 89 = .ok (.putfield 40, 3) := by decide +kernel
theorem d_Hunt_askLevel_92 : decode b_Hunt_askLevel 92 = .ok (.aload_n 0, 1) := by decide +kernel
theorem d_Hunt_askLevel_93 : decode b_Hunt_askLevel 93 = .ok (.getfield 23, 3) := by decide +kernel
theorem d_Hunt_askLevel_96 : decode b_Hunt_askLevel 96 = .ok (.aload_n 0, 1) := by decide +kernel
theorem d_Hunt_askLevel_97 : decode b_Hunt_askLevel 97 = .ok (.getfield 43, 3) := by decide +kernel
theorem d_Hunt_askLevel_100 : decode b_Hunt_askLevel 100 = .ok (.iconst 1, 1) := by decide +kernel
theorem d_Hunt_askLevel_101 : decode b_Hunt_askLevel 101 = .ok (.iadd, 1) := by decide +kernel
theorem d_Hunt_askLevel_102 : decode b_Hunt_askLevel 102 = .ok (.iload_n 1, 1) := by decide +kernel
theorem d_Hunt_askLevel_103 : decode b_Hunt_askLevel 103 = .ok (.iastore, 1) := by decide +kernel
theorem d_Hunt_askLevel_104 : decode b_Hunt_askLevel 104 = .ok (.return_, 1) := by decide +kernel
theorem d_Hunt_tellProgram_0 : decode b_Hunt_tellProgram 0 = .ok (.aload_n 0, 1) := by decide +kernel
theorem d_Hunt_tellProgram_1 : decode b_Hunt_tellProgram 1 = .ok (.getfield 26, 3) := by decide +kernel
theorem d_Hunt_tellProgram_4 : decode b_Hunt_tellProgram 4 = .ok (.aload_n 0, 1) := by decide +kernel
theorem d_Hunt_tellProgram_5 : decode b_Hunt_tellProgram 5 = .ok (.getfield 43, 3) := by decide +kernel
theorem d_Hunt_tellProgram_8 : decode b_Hunt_tellProgram 8 = .ok (.iload_n 2, 1) := by decide +kernel
theorem d_Hunt_tellProgram_9 : decode b_Hunt_tellProgram 9 = .ok (.iastore, 1) := by decide +kernel
theorem d_Hunt_tellProgram_10 : decode b_Hunt_tellProgram 10 = .ok (.iload_n 1, 1) := by decide +kernel
theorem d_Hunt_tellProgram_11 : decode b_Hunt_tellProgram 11 = .ok (.istore_n 3, 1) := by decide +kernel
theorem d_Hunt_tellProgram_12 : decode b_Hunt_tellProgram 12 = .ok (.aload_n 0, 1) := by decide +kernel
theorem d_Hunt_tellProgram_13 : decode b_Hunt_tellProgram 13 = .ok (.getfield 43, 3) := by decide +kernel
theorem d_Hunt_tellProgram_16 : decode b_Hunt_tellProgram 16 = .ok (.iconst 1, 1) := by decide +kernel
theorem d_Hunt_tellProgram_17 : decode b_Hunt_tellProgram 17 = .ok (.isub, 1) := by decide +kernel
theorem d_Hunt_tellProgram_18 : decode b_Hunt_tellProgram 18 = .ok (.istore 4, 2) := by decide +kernel
theorem d_Hunt_tellProgram_20 : decode b_Hunt_tellProgram 20 = .ok (.iload 4, 2) := by decide +kernel
theorem d_Hunt_tellProgram_22 : decode b_Hunt_tellProgram 22 = .ok (.ifCond .lt 34, 3) := by decide +kernel
theorem d_Hunt_tellProgram_25 : decode b_Hunt_tellProgram 25 = .ok (.aload_n 0, 1) := by decide +kernel
theorem d_Hunt_tellProgram_26 : decode b_Hunt_tellProgram 26 = .ok (.getfield 26, 3) := by decide +kernel
theorem d_Hunt_tellProgram_29 : decode b_Hunt_tellProgram 29 = .ok (.iload 4, 2) := by decide +kernel
theorem d_Hunt_tellProgram_31 : decode b_Hunt_tellProgram 31 = .ok (.aload_n 0, 1) := by decide +kernel
theorem d_Hunt_tellProgram_32 : decode b_Hunt_tellProgram 32 = .ok (.getfield 20, 3) := by decide +kernel
theorem d_Hunt_tellProgram_35 : decode b_Hunt_tellProgram 35 = .ok (.iload_n 3, 1) := by decide +kernel
theorem d_Hunt_tellProgram_36 : decode b_Hunt_tellProgram 36 = .ok (.iaload, 1) := by decide +kernel
theorem d_Hunt_tellProgram_37 : decode b_Hunt_tellProgram 37 = .ok (.bipush 15, 2) := by decide +kernel
theorem d_Hunt_tellProgram_39 : decode b_Hunt_tellProgram 39 = .ok (.iand, 1) := by decide +kernel
theorem d_Hunt_tellProgram_40 : decode b_Hunt_tellProgram 40 = .ok (.iastore, 1) := by decide +kernel
theorem d_Hunt_tellProgram_41 : decode b_Hunt_tellProgram 41 = .ok (.aload_n 0, 1) := by decide +kernel
theorem d_Hunt_tellProgram_42 : decode b_Hunt_tellProgram 42 = .ok (.getfield 20, 3) := by decide +kernel
theorem d_Hunt_tellProgram_45 : decode b_Hunt_tellProgram 45 = .ok (.iload_n 3, 1) := by decide +kernel
theorem d_Hunt_tellProgram_46 : decode b_Hunt_tellProgram 46 = .ok (.iaload, 1) := by decide +kernel
theorem d_Hunt_tellProgram_47 : decode b_Hunt_tellProgram 47 = .ok (.iconst 4, 1) := by decide +kernel
theorem d_Hunt_tellProgram_48 : decode b_Hunt_tellProgram 48 = .ok (.ishr, 1) := by decide +kernel
theorem d_Hunt_tellProgram_49 : decode b_Hunt_tellProgram 49 = .ok (.istore_n 3, 1) := by decide +kernel
theorem d_Hunt_tellProgram_50 : decode b_Hunt_tellProgram 50 = .ok (.iinc 4 (-1), 3) := by decide +kernel
theorem d_Hunt_tellProgram_53 : decode b_Hunt_tellProgram 53 = .ok (.goto (-33), 3) := by decide +kernel
theorem d_Hunt_tellProgram_56 : decode b_Hunt_tellProgram 56 = .ok (.aload_n 0, 1) := by decide +kernel
theorem d_Hunt_tellProgram_57 : decode b_Hunt_tellProgram 57 = .ok (.aload_n 0, 1) := by decide +kernel
theorem d_Hunt_tellProgram_58 : decode b_Hunt_tellProgram 58 = .ok (.getfield 43, 3) := by decide +kernel
theorem d_Hunt_tellProgram_61 : decode b_Hunt_tellProgram 61 = .ok (.iconst 1, 1) := by decide +kernel
theorem d_Hunt_tellProgram_62 : decode b_Hunt_tellProgram 62 = .ok (.iadd, 1) := by decide +kernel
theorem d_Hunt_tellProgram_63 : decode b_Hunt_tellProgram 63 = .ok (.putfield 32, 3) := by decide +kernel
theorem d_Hunt_tellProgram_66 : decode b_Hunt_tellProgram 66 = .ok (.return_, 1) := by decide +kernel
theorem d_Hunt_gather_0 : decode b_Hunt_gather 0 = .ok (.iload_n 2, 1) := by decide +kernel
theorem d_Hunt_gather_1 : decode b_Hunt_gather 1 = .ok (.istore_n 3, 1) := by decide +kernel
theorem d_Hunt_gather_2 : decode b_Hunt_gather 2 = .ok (.iconst 0, 1) := by decide +kernel
theorem d_Hunt_gather_3 : decode b_Hunt_gather 3 = .ok (.istore 4, 2) := by decide +kernel
theorem d_Hunt_gather_5 : decode b_Hunt_gather 5 = .ok (.iload 4, 2) := by decide +kernel
theorem d_Hunt_gather_7 : decode b_Hunt_gather 7 = .ok (.aload_n 0, 1) := by decide +kernel
theorem d_Hunt_gather_8 : decode b_Hunt_gather 8 = .ok (.getfield 36, 3) := by decide +kernel
theorem d_Hunt_gather_11 : decode b_Hunt_gather 11 = .ok (.getfield 89, 3) := by decide +kernel
theorem d_Hunt_gather_14 : decode b_Hunt_gather 14 = .ok (.if_icmp .ge 39, 3) := by decide +kernel
theorem d_Hunt_gather_17 : decode b_Hunt_gather 17 = .ok (.aload_n 0, 1) := by decide +kernel
theorem d_Hunt_gather_18 : decode b_Hunt_gather 18 = .ok (.aload_n 0, 1) := by decide +kernel
theorem d_Hunt_gather_19 : decode b_Hunt_gather 19 = .ok (.getfield 36, 3) := by decide +kernel
theorem d_Hunt_gather_22 : decode b_Hunt_gather 22 = .ok (.iload 4, 2) := by decide +kernel
theorem d_Hunt_gather_24 : decode b_Hunt_gather 24 = .ok (.aload_n 0, 1) := by decide +kernel
theorem d_Hunt_gather_25 : decode b_Hunt_gather 25 = .ok (.getfield 11, 3) := by decide +kernel
theorem d_Hunt_gather_28 : decode b_Hunt_gather 28 = .ok (.invokevirtual 92, 3) := by decide +kernel
theorem d_Hunt_gather_31 : decode b_Hunt_gather 31 = .ok (.iload_n 3, 1) := by decide +kernel
theorem d_Hunt_gather_32 : decode b_Hunt_gather 32 = .ok (.iload_n 1, 1) := by decide +kernel
theorem d_Hunt_gather_33 : decode b_Hunt_gather 33 = .ok (.iconst 4, 1) := by decide +kernel
theorem d_Hunt_gather_34 : decode b_Hunt_gather 34 = .ok (.ishl, 1) := by decide +kernel
theorem d_Hunt_gather_35 : decode b_Hunt_gather 35 = .ok (.iload 4, 2) := by decide +kernel
theorem d_Hunt_gather_37 : decode b_Hunt_gather 37 = .ok (.ior, 1) := by decide +kernel
theorem d_Hunt_gather_38 : decode b_Hunt_gather 38 = .ok (.invokevirtual 65, 3) := by decide +kernel
theorem d_Hunt_gather_41 : decode b_Hunt_gather 41 = .ok (.ifCond .eq 6, 3) := by decide +kernel
theorem d_Hunt_gather_44 : decode b_Hunt_gather 44 = .ok (.iinc 3 1, 3) := by decide +kernel
theorem d_Hunt_gather_47 : decode b_Hunt_gather 47 = .ok (.iinc 4 1, 3) := by decide +kernel
theorem d_Hunt_gather_50 : decode b_Hunt_gather 50 = .ok (.goto (-45), 3) := by decide +kernel
theorem d_Hunt_gather_53 : decode b_Hunt_gather 53 = .ok (.iload_n 3, 1) := by decide +kernel
theorem d_Hunt_gather_54 : decode b_Hunt_gather 54 = .ok (.ireturn, 1) := by decide +kernel
