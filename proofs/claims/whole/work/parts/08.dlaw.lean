-- ===== decode rows =====
theorem d_Law_cell_0 : decode b_Law_cell 0 = .ok (.iload_n 1, 1) := by decide +kernel
theorem d_Law_cell_1 : decode b_Law_cell 1 = .ok (.aload_n 0, 1) := by decide +kernel
theorem d_Law_cell_2 : decode b_Law_cell 2 = .ok (.arraylength, 1) := by decide +kernel
theorem d_Law_cell_3 : decode b_Law_cell 3 = .ok (.if_icmp .ge 9, 3) := by decide +kernel
theorem d_Law_cell_6 : decode b_Law_cell 6 = .ok (.aload_n 0, 1) := by decide +kernel
theorem d_Law_cell_7 : decode b_Law_cell 7 = .ok (.iload_n 1, 1) := by decide +kernel
theorem d_Law_cell_8 : decode b_Law_cell 8 = .ok (.iaload, 1) := by decide +kernel
theorem d_Law_cell_9 : decode b_Law_cell 9 = .ok (.goto 4, 3) := by decide +kernel
theorem d_Law_cell_12 : decode b_Law_cell 12 = .ok (.iconst 0, 1) := by decide +kernel
theorem d_Law_cell_13 : decode b_Law_cell 13 = .ok (.ireturn, 1) := by decide +kernel
theorem d_Law_state_0 : decode b_Law_state 0 = .ok (.aload_n 3, 1) := by decide +kernel
theorem d_Law_state_1 : decode b_Law_state 1 = .ok (.iconst 0, 1) := by decide +kernel
theorem d_Law_state_2 : decode b_Law_state 2 = .ok (.aload_n 0, 1) := by decide +kernel
theorem d_Law_state_3 : decode b_Law_state 3 = .ok (.iload_n 1, 1) := by decide +kernel
theorem d_Law_state_4 : decode b_Law_state 4 = .ok (.iload_n 2, 1) := by decide +kernel
theorem d_Law_state_5 : decode b_Law_state 5 = .ok (.invokevirtual 7, 3) := by decide +kernel
theorem d_Law_state_8 : decode b_Law_state 8 = .ok (.i2l, 1) := by decide +kernel
theorem d_Law_state_9 : decode b_Law_state 9 = .ok (.lastore, 1) := by decide +kernel
theorem d_Law_state_10 : decode b_Law_state 10 = .ok (.goto 11, 3) := by decide +kernel
theorem d_Law_state_13 : decode b_Law_state 13 = .ok (.astore 4, 2) := by decide +kernel
theorem d_Law_state_15 : decode b_Law_state 15 = .ok (.iconst 1, 1) := by decide +kernel
theorem d_Law_state_16 : decode b_Law_state 16 = .ok (.ireturn, 1) := by decide +kernel
theorem d_Law_state_17 : decode b_Law_state 17 = .ok (.astore 4, 2) := by decide +kernel
theorem d_Law_state_19 : decode b_Law_state 19 = .ok (.iconst 2, 1) := by decide +kernel
theorem d_Law_state_20 : decode b_Law_state 20 = .ok (.ireturn, 1) := by decide +kernel
theorem d_Law_state_21 : decode b_Law_state 21 = .ok (.iconst 0, 1) := by decide +kernel
theorem d_Law_state_22 : decode b_Law_state 22 = .ok (.ireturn, 1) := by decide +kernel
theorem d_Law_gate_0 : decode b_Law_gate 0 = .ok (.aload 4, 2) := by decide +kernel
theorem d_Law_gate_2 : decode b_Law_gate 2 = .ok (.iconst 0, 1) := by decide +kernel
theorem d_Law_gate_3 : decode b_Law_gate 3 = .ok (.aload_n 0, 1) := by decide +kernel
theorem d_Law_gate_4 : decode b_Law_gate 4 = .ok (.iload_n 1, 1) := by decide +kernel
theorem d_Law_gate_5 : decode b_Law_gate 5 = .ok (.iload_n 2, 1) := by decide +kernel
theorem d_Law_gate_6 : decode b_Law_gate 6 = .ok (.iload_n 3, 1) := by decide +kernel
theorem d_Law_gate_7 : decode b_Law_gate 7 = .ok (.invokevirtual 17, 3) := by decide +kernel
theorem d_Law_gate_10 : decode b_Law_gate 10 = .ok (.i2l, 1) := by decide +kernel
theorem d_Law_gate_11 : decode b_Law_gate 11 = .ok (.lastore, 1) := by decide +kernel
theorem d_Law_gate_12 : decode b_Law_gate 12 = .ok (.goto 11, 3) := by decide +kernel
theorem d_Law_gate_15 : decode b_Law_gate 15 = .ok (.astore 5, 2) := by decide +kernel
theorem d_Law_gate_17 : decode b_Law_gate 17 = .ok (.iconst 1, 1) := by decide +kernel
theorem d_Law_gate_18 : decode b_Law_gate 18 = .ok (.ireturn, 1) := by decide +kernel
theorem d_Law_gate_19 : decode b_Law_gate 19 = .ok (.astore 5, 2) := by decide +kernel
theorem d_Law_gate_21 : decode b_Law_gate 21 = .ok (.iconst 2, 1) := by decide +kernel
theorem d_Law_gate_22 : decode b_Law_gate 22 = .ok (.ireturn, 1) := by decide +kernel
theorem d_Law_gate_23 : decode b_Law_gate 23 = .ok (.iconst 0, 1) := by decide +kernel
theorem d_Law_gate_24 : decode b_Law_gate 24 = .ok (.ireturn, 1) := by decide +kernel
theorem d_Law_next_0 : decode b_Law_next 0 = .ok (.aload_n 3, 1) := by decide +kernel
theorem d_Law_next_1 : decode b_Law_next 1 = .ok (.iconst 0, 1) := by decide +kernel
theorem d_Law_next_2 : decode b_Law_next 2 = .ok (.aload_n 0, 1) := by decide +kernel
theorem d_Law_next_3 : decode b_Law_next 3 = .ok (.iload_n 1, 1) := by decide +kernel
theorem d_Law_next_4 : decode b_Law_next 4 = .ok (.iload_n 2, 1) := by decide +kernel
theorem d_Law_next_5 : decode b_Law_next 5 = .ok (.invokevirtual 21, 3) := by decide +kernel
theorem d_Law_next_8 : decode b_Law_next 8 = .ok (.i2l, 1) := by decide +kernel
theorem d_Law_next_9 : decode b_Law_next 9 = .ok (.lastore, 1) := by decide +kernel
theorem d_Law_next_10 : decode b_Law_next 10 = .ok (.goto 7, 3) := by decide +kernel
theorem d_Law_next_13 : decode b_Law_next 13 = .ok (.astore 4, 2) := by decide +kernel
theorem d_Law_next_15 : decode b_Law_next 15 = .ok (.iconst 1, 1) := by decide +kernel
theorem d_Law_next_16 : decode b_Law_next 16 = .ok (.ireturn, 1) := by decide +kernel
theorem d_Law_next_17 : decode b_Law_next 17 = .ok (.iconst 0, 1) := by decide +kernel
theorem d_Law_next_18 : decode b_Law_next 18 = .ok (.ireturn, 1) := by decide +kernel
theorem d_Law_compare_0 : decode b_Law_compare 0 = .ok (.aload_n 3, 1) := by decide +kernel
theorem d_Law_compare_1 : decode b_Law_compare 1 = .ok (.iconst 0, 1) := by decide +kernel
theorem d_Law_compare_2 : decode b_Law_compare 2 = .ok (.aload_n 0, 1) := by decide +kernel
theorem d_Law_compare_3 : decode b_Law_compare 3 = .ok (.iload_n 1, 1) := by decide +kernel
theorem d_Law_compare_4 : decode b_Law_compare 4 = .ok (.iload_n 2, 1) := by decide +kernel
theorem d_Law_compare_5 : decode b_Law_compare 5 = .ok (.invokevirtual 25, 3) := by decide +kernel
theorem d_Law_compare_8 : decode b_Law_compare 8 = .ok (.i2l, 1) := by decide +kernel
theorem d_Law_compare_9 : decode b_Law_compare 9 = .ok (.lastore, 1) := by decide +kernel
theorem d_Law_compare_10 : decode b_Law_compare 10 = .ok (.goto 11, 3) := by decide +kernel
theorem d_Law_compare_13 : decode b_Law_compare 13 = .ok (.astore 4, 2) := by decide +kernel
theorem d_Law_compare_15 : decode b_Law_compare 15 = .ok (.iconst 1, 1) := by decide +kernel
theorem d_Law_compare_16 : decode b_Law_compare 16 = .ok (.ireturn, 1) := by decide +kernel
theorem d_Law_compare_17 : decode b_Law_compare 17 = .ok (.astore 4, 2) := by decide +kernel
theorem d_Law_compare_19 : decode b_Law_compare 19 = .ok (.iconst 2, 1) := by decide +kernel
theorem d_Law_compare_20 : decode b_Law_compare 20 = .ok (.ireturn, 1) := by decide +kernel
theorem d_Law_compare_21 : decode b_Law_compare 21 = .ok (.iconst 0, 1) := by decide +kernel
theorem d_Law_compare_22 : decode b_Law_compare 22 = .ok (.ireturn, 1) := by decide +kernel
theorem d_Law_search_0 : decode b_Law_search 0 = .ok (.aload_n 2, 1) := by decide +kernel
theorem d_Law_search_1 : decode b_Law_search 1 = .ok (.iconst 0, 1) := by decide +kernel
theorem d_Law_search_2 : decode b_Law_search 2 = .ok (.aload_n 0, 1) := by decide +kernel
theorem d_Law_search_3 : decode b_Law_search 3 = .ok (.iload_n 1, 1) := by decide +kernel
theorem d_Law_search_4 : decode b_Law_search 4 = .ok (.invokevirtual 28, 3) := by decide +kernel
theorem d_Law_search_7 : decode b_Law_search 7 = .ok (.i2l, 1) := by decide +kernel
theorem d_Law_search_8 : decode b_Law_search 8 = .ok (.lastore, 1) := by decide +kernel
theorem d_Law_search_9 : decode b_Law_search 9 = .ok (.goto 6, 3) := by decide +kernel
theorem d_Law_search_12 : decode b_Law_search 12 = .ok (.astore_n 3, 1) := by decide +kernel
theorem d_Law_search_13 : decode b_Law_search 13 = .ok (.iconst 1, 1) := by decide +kernel
theorem d_Law_search_14 : decode b_Law_search 14 = .ok (.ireturn, 1) := by decide +kernel
theorem d_Law_search_15 : decode b_Law_search 15 = .ok (.iconst 0, 1) := by decide +kernel
theorem d_Law_search_16 : decode b_Law_search 16 = .ok (.ireturn, 1) := by decide +kernel
theorem d_Law_word_0 : decode b_Law_word 0 = .ok (.aload_n 2, 1) := by decide +kernel
theorem d_Law_word_1 : decode b_Law_word 1 = .ok (.iconst 0, 1) := by decide +kernel
theorem d_Law_word_2 : decode b_Law_word 2 = .ok (.aload_n 0, 1) := by decide +kernel
theorem d_Law_word_3 : decode b_Law_word 3 = .ok (.iload_n 1, 1) := by decide +kernel
theorem d_Law_word_4 : decode b_Law_word 4 = .ok (.invokevirtual 32, 3) := by decide +kernel
theorem d_Law_word_7 : decode b_Law_word 7 = .ok (.i2l, 1) := by decide +kernel
theorem d_Law_word_8 : decode b_Law_word 8 = .ok (.lastore, 1) := by decide +kernel
theorem d_Law_word_9 : decode b_Law_word 9 = .ok (.goto 6, 3) := by decide +kernel
theorem d_Law_word_12 : decode b_Law_word 12 = .ok (.astore_n 3, 1) := by decide +kernel
theorem d_Law_word_13 : decode b_Law_word 13 = .ok (.iconst 1, 1) := by decide +kernel
theorem d_Law_word_14 : decode b_Law_word 14 = .ok (.ireturn, 1) := by decide +kernel
theorem d_Law_word_15 : decode b_Law_word 15 = .ok (.iconst 0, 1) := by decide +kernel
theorem d_Law_word_16 : decode b_Law_word 16 = .ok (.ireturn, 1) := by decide +kernel
theorem d_Law_level_0 : decode b_Law_level 0 = .ok (.aload_n 2, 1) := by decide +kernel
theorem d_Law_level_1 : decode b_Law_level 1 = .ok (.iconst 0, 1) := by decide +kernel
theorem d_Law_level_2 : decode b_Law_level 2 = .ok (.aload_n 0, 1) := by decide +kernel
theorem d_Law_level_3 : decode b_Law_level 3 = .ok (.iload_n 1, 1) := by decide +kernel
theorem d_Law_level_4 : decode b_Law_level 4 = .ok (.invokevirtual 37, 3) := by decide +kernel
theorem d_Law_level_7 : decode b_Law_level 7 = .ok (.i2l, 1) := by decide +kernel
theorem d_Law_level_8 : decode b_Law_level 8 = .ok (.lastore, 1) := by decide +kernel
theorem d_Law_level_9 : decode b_Law_level 9 = .ok (.goto 6, 3) := by decide +kernel
theorem d_Law_level_12 : decode b_Law_level 12 = .ok (.astore_n 3, 1) := by decide +kernel
theorem d_Law_level_13 : decode b_Law_level 13 = .ok (.iconst 1, 1) := by decide +kernel
theorem d_Law_level_14 : decode b_Law_level 14 = .ok (.ireturn, 1) := by decide +kernel
theorem d_Law_level_15 : decode b_Law_level 15 = .ok (.iconst 0, 1) := by decide +kernel
theorem d_Law_level_16 : decode b_Law_level 16 = .ok (.ireturn, 1) := by decide +kernel
theorem d_Law_truth_0 : decode b_Law_truth 0 = .ok (.aload_n 2, 1) := by decide +kernel
theorem d_Law_truth_1 : decode b_Law_truth 1 = .ok (.iconst 0, 1) := by decide +kernel
theorem d_Law_truth_2 : decode b_Law_truth 2 = .ok (.aload_n 0, 1) := by decide +kernel
theorem d_Law_truth_3 : decode b_Law_truth 3 = .ok (.iload_n 1, 1) := by decide +kernel
theorem d_Law_truth_4 : decode b_Law_truth 4 = .ok (.invokevirtual 40, 3) := by decide +kernel
theorem d_Law_truth_7 : decode b_Law_truth 7 = .ok (.ifCond .eq 7, 3) := by decide +kernel
theorem d_Law_truth_10 : decode b_Law_truth 10 = .ok (.lconst 1, 1) := by decide +kernel
theorem d_Law_truth_11 : decode b_Law_truth 11 = .ok (.goto 4, 3) := by decide +kernel
theorem d_Law_truth_14 : decode b_Law_truth 14 = .ok (.lconst 0, 1) := by decide +kernel
theorem d_Law_truth_15 : decode b_Law_truth 15 = .ok (.lastore, 1) := by decide +kernel
theorem d_Law_truth_16 : decode b_Law_truth 16 = .ok (.goto 6, 3) := by decide +kernel
theorem d_Law_truth_19 : decode b_Law_truth 19 = .ok (.astore_n 3, 1) := by decide +kernel
theorem d_Law_truth_20 : decode b_Law_truth 20 = .ok (.iconst 1, 1) := by decide +kernel
theorem d_Law_truth_21 : decode b_Law_truth 21 = .ok (.ireturn, 1) := by decide +kernel
theorem d_Law_truth_22 : decode b_Law_truth 22 = .ok (.iconst 0, 1) := by decide +kernel
theorem d_Law_truth_23 : decode b_Law_truth 23 = .ok (.ireturn, 1) := by decide +kernel
