-- ===== decode rows =====
theorem d_Mod_init_0 : decode b_Mod_init 0 = .ok (.aload_n 0, 1) := by decide +kernel
theorem d_Mod_init_1 : decode b_Mod_init 1 = .ok (.invokespecial 1, 3) := by decide +kernel
theorem d_Mod_init_4 : decode b_Mod_init 4 = .ok (.aload_n 0, 1) := by decide +kernel
theorem d_Mod_init_5 : decode b_Mod_init 5 = .ok (.iconst 2, 1) := by decide +kernel
theorem d_Mod_init_6 : decode b_Mod_init 6 = .ok (.newarray .int, 2) := by decide +kernel
theorem d_Mod_init_8 : decode b_Mod_init 8 = .ok (.putfield 7, 3) := by decide +kernel
theorem d_Mod_init_11 : decode b_Mod_init 11 = .ok (.aload_n 0, 1) := by decide +kernel
theorem d_Mod_init_12 : decode b_Mod_init 12 = .ok (.bipush 100, 2) := by decide +kernel
theorem d_Mod_init_14 : decode b_Mod_init 14 = .ok (.newarray .int, 2) := by decide +kernel
theorem d_Mod_init_16 : decode b_Mod_init 16 = .ok (.putfield 13, 3) := by decide +kernel
theorem d_Mod_init_19 : decode b_Mod_init 19 = .ok (.aload_n 0, 1) := by decide +kernel
theorem d_Mod_init_20 : decode b_Mod_init 20 = .ok (.bipush 100, 2) := by decide +kernel
theorem d_Mod_init_22 : decode b_Mod_init 22 = .ok (.newarray .int, 2) := by decide +kernel
theorem d_Mod_init_24 : decode b_Mod_init 24 = .ok (.putfield 16, 3) := by decide +kernel
theorem d_Mod_init_27 : decode b_Mod_init 27 = .ok (.aload_n 0, 1) := by decide +kernel
theorem d_Mod_init_28 : decode b_Mod_init 28 = .ok (.bipush 100, 2) := by decide +kernel
theorem d_Mod_init_30 : decode b_Mod_init 30 = .ok (.newarray .int, 2) := by decide +kernel
theorem d_Mod_init_32 : decode b_Mod_init 32 = .ok (.putfield 19, 3) := by decide +kernel
theorem d_Mod_init_35 : decode b_Mod_init 35 = .ok (.aload_n 0, 1) := by decide +kernel
theorem d_Mod_init_36 : decode b_Mod_init 36 = .ok (.bipush 100, 2) := by decide +kernel
theorem d_Mod_init_38 : decode b_Mod_init 38 = .ok (.newarray .int, 2) := by decide +kernel
theorem d_Mod_init_40 : decode b_Mod_init 40 = .ok (.putfield 22, 3) := by decide +kernel
theorem d_Mod_init_43 : decode b_Mod_init 43 = .ok (.aload_n 0, 1) := by decide +kernel
theorem d_Mod_init_44 : decode b_Mod_init 44 = .ok (.bipush 14, 2) := by decide +kernel
theorem d_Mod_init_46 : decode b_Mod_init 46 = .ok (.newarray .int, 2) := by decide +kernel
theorem d_Mod_init_48 : decode b_Mod_init 48 = .ok (.putfield 25, 3) := by decide +kernel
theorem d_Mod_init_51 : decode b_Mod_init 51 = .ok (.aload_n 0, 1) := by decide +kernel
theorem d_Mod_init_52 : decode b_Mod_init 52 = .ok (.bipush 14, 2) := by decide +kernel
theorem d_Mod_init_54 : decode b_Mod_init 54 = .ok (.newarray .int, 2) := by decide +kernel
theorem d_Mod_init_56 : decode b_Mod_init 56 = .ok (.putfield 28, 3) := by decide +kernel
theorem d_Mod_init_59 : decode b_Mod_init 59 = .ok (.aload_n 0, 1) := by decide +kernel
theorem d_Mod_init_60 : decode b_Mod_init 60 = .ok (.bipush 14, 2) := by decide +kernel
theorem d_Mod_init_62 : decode b_Mod_init 62 = .ok (.newarray .boolean, 2) := by decide +kernel
theorem d_Mod_init_64 : decode b_Mod_init 64 = .ok (.putfield 31, 3) := by decide +kernel
theorem d_Mod_init_67 : decode b_Mod_init 67 = .ok (.aload_n 0, 1) := by decide +kernel
theorem d_Mod_init_68 : decode b_Mod_init 68 = .ok (.bipush 16, 2) := by decide +kernel
theorem d_Mod_init_70 : decode b_Mod_init 70 = .ok (.newarray .int, 2) := by decide +kernel
theorem d_Mod_init_72 : decode b_Mod_init 72 = .ok (.putfield 35, 3) := by decide +kernel
theorem d_Mod_init_75 : decode b_Mod_init 75 = .ok (.aload_n 0, 1) := by decide +kernel
theorem d_Mod_init_76 : decode b_Mod_init 76 = .ok (.bipush 16, 2) := by decide +kernel
theorem d_Mod_init_78 : decode b_Mod_init 78 = .ok (.newarray .int, 2) := by decide +kernel
theorem d_Mod_init_80 : decode b_Mod_init 80 = .ok (.putfield 38, 3) := by decide +kernel
theorem d_Mod_init_83 : decode b_Mod_init 83 = .ok (.aload_n 0, 1) := by decide +kernel
theorem d_Mod_init_84 : decode b_Mod_init 84 = .ok (.bipush 100, 2) := by decide +kernel
theorem d_Mod_init_86 : decode b_Mod_init 86 = .ok (.newarray .boolean, 2) := by decide +kernel
theorem d_Mod_init_88 : decode b_Mod_init 88 = .ok (.putfield 41, 3) := by decide +kernel
theorem d_Mod_init_91 : decode b_Mod_init 91 = .ok (.aload_n 0, 1) := by decide +kernel
theorem d_Mod_init_92 : decode b_Mod_init 92 = .ok (.sipush 16384, 3) := by decide +kernel
theorem d_Mod_init_95 : decode b_Mod_init 95 = .ok (.newarray .int, 2) := by decide +kernel
theorem d_Mod_init_97 : decode b_Mod_init 97 = .ok (.putfield 44, 3) := by decide +kernel
theorem d_Mod_init_100 : decode b_Mod_init 100 = .ok (.aload_n 0, 1) := by decide +kernel
theorem d_Mod_init_101 : decode b_Mod_init 101 = .ok (.sipush 16384, 3) := by decide +kernel
theorem d_Mod_init_104 : decode b_Mod_init 104 = .ok (.newarray .int, 2) := by decide +kernel
theorem d_Mod_init_106 : decode b_Mod_init 106 = .ok (.putfield 47, 3) := by decide +kernel
theorem d_Mod_init_109 : decode b_Mod_init 109 = .ok (.aload_n 0, 1) := by decide +kernel
theorem d_Mod_init_110 : decode b_Mod_init 110 = .ok (.sipush 16384, 3) := by decide +kernel
theorem d_Mod_init_113 : decode b_Mod_init 113 = .ok (.newarray .int, 2) := by decide +kernel
theorem d_Mod_init_115 : decode b_Mod_init 115 = .ok (.putfield 50, 3) := by decide +kernel
theorem d_Mod_init_118 : decode b_Mod_init 118 = .ok (.aload_n 0, 1) := by decide +kernel
theorem d_Mod_init_119 : decode b_Mod_init 119 = .ok (.sipush 16400, 3) := by decide +kernel
theorem d_Mod_init_122 : decode b_Mod_init 122 = .ok (.newarray .int, 2) := by decide +kernel
theorem d_Mod_init_124 : decode b_Mod_init 124 = .ok (.putfield 53, 3) := by decide +kernel
theorem d_Mod_init_127 : decode b_Mod_init 127 = .ok (.aload_n 0, 1) := by decide +kernel
theorem d_Mod_init_128 : decode b_Mod_init 128 = .ok (.sipush 16384, 3) := by decide +kernel
theorem d_Mod_init_131 : decode b_Mod_init 131 = .ok (.newarray .boolean, 2) := by decide +kernel
theorem d_Mod_init_133 : decode b_Mod_init 133 = .ok (.putfield 56, 3) := by decide +kernel
theorem d_Mod_init_136 : decode b_Mod_init 136 = .ok (.aload_n 0, 1) := by decide +kernel
theorem d_Mod_init_137 : decode b_Mod_init 137 = .ok (.sipush 16400, 3) := by decide +kernel
theorem d_Mod_init_140 : decode b_Mod_init 140 = .ok (.newarray .int, 2) := by decide +kernel
theorem d_Mod_init_142 : decode b_Mod_init 142 = .ok (.putfield 59, 3) := by decide +kernel
theorem d_Mod_init_145 : decode b_Mod_init 145 = .ok (.aload_n 0, 1) := by decide +kernel
theorem d_Mod_init_146 : decode b_Mod_init 146 = .ok (.iconst (-1), 1) := by decide +kernel
theorem d_Mod_init_147 : decode b_Mod_init 147 = .ok (.putfield 62, 3) := by decide +kernel
theorem d_Mod_init_150 : decode b_Mod_init 150 = .ok (.aload_n 0, 1) := by decide +kernel
theorem d_Mod_init_151 : decode b_Mod_init 151 = .ok (.bipush 100, 2) := by decide +kernel
theorem d_Mod_init_153 : decode b_Mod_init 153 = .ok (.newarray .boolean, 2) := by decide +kernel
theorem d_Mod_init_155 : decode b_Mod_init 155 = .ok (.putfield 66, 3) := by decide +kernel
theorem d_Mod_init_158 : decode b_Mod_init 158 = .ok (.aload_n 0, 1) := by decide +kernel
theorem d_Mod_init_159 : decode b_Mod_init 159 = .ok (.iconst 1, 1) := by decide +kernel
theorem d_Mod_init_160 : decode b_Mod_init 160 = .ok (.iload_n 1, 1) := by decide +kernel
theorem d_Mod_init_161 : decode b_Mod_init 161 = .ok (.iconst 1, 1) := by decide +kernel
theorem d_Mod_init_162 : decode b_Mod_init 162 = .ok (.isub, 1) := by decide +kernel
theorem d_Mod_init_163 : decode b_Mod_init 163 = .ok (.iconst 3, 1) := by decide +kernel
theorem d_Mod_init_164 : decode b_Mod_init 164 = .ok (.iand, 1) := by decide +kernel
theorem d_Mod_init_165 : decode b_Mod_init 165 = .ok (.iadd, 1) := by decide +kernel
theorem d_Mod_init_166 : decode b_Mod_init 166 = .ok (.putfield 69, 3) := by decide +kernel
theorem d_Mod_init_169 : decode b_Mod_init 169 = .ok (.aload_n 0, 1) := by decide +kernel
theorem d_Mod_init_170 : decode b_Mod_init 170 = .ok (.aload_n 0, 1) := by decide +kernel
theorem d_Mod_init_171 : decode b_Mod_init 171 = .ok (.getfield 69, 3) := by decide +kernel
theorem d_Mod_init_174 : decode b_Mod_init 174 = .ok (.putfield 72, 3) := by decide +kernel
theorem d_Mod_init_177 : decode b_Mod_init 177 = .ok (.iconst 0, 1) := by decide +kernel
theorem d_Mod_init_178 : decode b_Mod_init 178 = .ok (.istore_n 2, 1) := by decide +kernel
theorem d_Mod_init_179 : decode b_Mod_init 179 = .ok (.iload_n 2, 1) := by decide +kernel
theorem d_Mod_init_180 : decode b_Mod_init 180 = .ok (.aload_n 0, 1) := by decide +kernel
theorem d_Mod_init_181 : decode b_Mod_init 181 = .ok (.getfield 72, 3) := by decide +kernel
theorem d_Mod_init_184 : decode b_Mod_init 184 = .ok (.if_icmp .ge 16, 3) := by decide +kernel
theorem d_Mod_init_187 : decode b_Mod_init 187 = .ok (.aload_n 0, 1) := by decide +kernel
theorem d_Mod_init_188 : decode b_Mod_init 188 = .ok (.getfield 13, 3) := by decide +kernel
theorem d_Mod_init_191 : decode b_Mod_init 191 = .ok (.iload_n 2, 1) := by decide +kernel
theorem d_Mod_init_192 : decode b_Mod_init 192 = .ok (.iconst (-1), 1) := by decide +kernel
theorem d_Mod_init_193 : decode b_Mod_init 193 = .ok (.iastore, 1) := by decide +kernel
theorem d_Mod_init_194 : decode b_Mod_init 194 = .ok (.iinc 2 1, 3) := by decide +kernel
theorem d_Mod_init_197 : decode b_Mod_init 197 = .ok (.goto (-18), 3) := by decide +kernel
theorem d_Mod_init_200 : decode b_Mod_init 200 = .ok (.aload_n 0, 1) := by decide +kernel
theorem d_Mod_init_201 : decode b_Mod_init 201 = .ok (.invokevirtual 75, 3) := by decide +kernel
theorem d_Mod_init_204 : decode b_Mod_init 204 = .ok (.return_, 1) := by decide +kernel
theorem d_Mod_forget_0 : decode b_Mod_forget 0 = .ok (.iconst 0, 1) := by decide +kernel
theorem d_Mod_forget_1 : decode b_Mod_forget 1 = .ok (.istore_n 1, 1) := by decide +kernel
theorem d_Mod_forget_2 : decode b_Mod_forget 2 = .ok (.iload_n 1, 1) := by decide +kernel
theorem d_Mod_forget_3 : decode b_Mod_forget 3 = .ok (.aload_n 0, 1) := by decide +kernel
theorem d_Mod_forget_4 : decode b_Mod_forget 4 = .ok (.getfield 81, 3) := by decide +kernel
theorem d_Mod_forget_7 : decode b_Mod_forget 7 = .ok (.if_icmp .ge 21, 3) := by decide +kernel
theorem d_Mod_forget_10 : decode b_Mod_forget 10 = .ok (.aload_n 0, 1) := by decide +kernel
theorem d_Mod_forget_11 : decode b_Mod_forget 11 = .ok (.getfield 56, 3) := by decide +kernel
theorem d_Mod_forget_14 : decode b_Mod_forget 14 = .ok (.aload_n 0, 1) := by decide +kernel
theorem d_Mod_forget_15 : decode b_Mod_forget 15 = .ok (.getfield 44, 3) := by decide +kernel
theorem d_Mod_forget_18 : decode b_Mod_forget 18 = .ok (.iload_n 1, 1) := by decide +kernel
theorem d_Mod_forget_19 : decode b_Mod_forget 19 = .ok (.iaload, 1) := by decide +kernel
theorem d_Mod_forget_20 : decode b_Mod_forget 20 = .ok (.iconst 0, 1) := by decide +kernel
theorem d_Mod_forget_21 : decode b_Mod_forget 21 = .ok (.bastore, 1) := by decide +kernel
theorem d_Mod_forget_22 : decode b_Mod_forget 22 = .ok (.iinc 1 1, 3) := by decide +kernel
theorem d_Mod_forget_25 : decode b_Mod_forget 25 = .ok (.goto (-23), 3) := by decide +kernel
theorem d_Mod_forget_28 : decode b_Mod_forget 28 = .ok (.aload_n 0, 1) := by decide +kernel
theorem d_Mod_forget_29 : decode b_Mod_forget 29 = .ok (.iconst 0, 1) := by decide +kernel
theorem d_Mod_forget_30 : decode b_Mod_forget 30 = .ok (.putfield 81, 3) := by decide +kernel
theorem d_Mod_forget_33 : decode b_Mod_forget 33 = .ok (.aload_n 0, 1) := by decide +kernel
theorem d_Mod_forget_34 : decode b_Mod_forget 34 = .ok (.iconst 0, 1) := by decide +kernel
theorem d_Mod_forget_35 : decode b_Mod_forget 35 = .ok (.putfield 84, 3) := by decide +kernel
theorem d_Mod_forget_38 : decode b_Mod_forget 38 = .ok (.aload_n 0, 1) := by decide +kernel
theorem d_Mod_forget_39 : decode b_Mod_forget 39 = .ok (.iconst 0, 1) := by decide +kernel
theorem d_Mod_forget_40 : decode b_Mod_forget 40 = .ok (.putfield 87, 3) := by decide +kernel
theorem d_Mod_forget_43 : decode b_Mod_forget 43 = .ok (.aload_n 0, 1) := by decide +kernel
theorem d_Mod_forget_44 : decode b_Mod_forget 44 = .ok (.iconst 0, 1) := by decide +kernel
theorem d_Mod_forget_45 : decode b_Mod_forget 45 = .ok (.putfield 91, 3) := by decide +kernel
theorem d_Mod_forget_48 : decode b_Mod_forget 48 = .ok (.aload_n 0, 1) := by decide +kernel
theorem d_Mod_forget_49 : decode b_Mod_forget 49 = .ok (.invokevirtual 94, 3) := by decide +kernel
theorem d_Mod_forget_52 : decode b_Mod_forget 52 = .ok (.return_, 1) := by decide +kernel
theorem d_Mod_anew_0 : decode b_Mod_anew 0 = .ok (.aload_n 0, 1) := by decide +kernel
theorem d_Mod_anew_1 : decode b_Mod_anew 1 = .ok (.iconst 0, 1) := by decide +kernel
theorem d_Mod_anew_2 : decode b_Mod_anew 2 = .ok (.putfield 100, 3) := by decide +kernel
theorem d_Mod_anew_5 : decode b_Mod_anew 5 = .ok (.aload_n 0, 1) := by decide +kernel
theorem d_Mod_anew_6 : decode b_Mod_anew 6 = .ok (.iconst (-1), 1) := by decide +kernel
theorem d_Mod_anew_7 : decode b_Mod_anew 7 = .ok (.putfield 62, 3) := by decide +kernel
theorem d_Mod_anew_10 : decode b_Mod_anew 10 = .ok (.aload_n 0, 1) := by decide +kernel
theorem d_Mod_anew_11 : decode b_Mod_anew 11 = .ok (.aload_n 0, 1) := by decide +kernel
theorem d_Mod_anew_12 : decode b_Mod_anew 12 = .ok (.invokevirtual 103, 3) := by decide +kernel
theorem d_Mod_anew_15 : decode b_Mod_anew 15 = .ok (.putfield 107, 3) := by decide +kernel
theorem d_Mod_anew_18 : decode b_Mod_anew 18 = .ok (.iconst 0, 1) := by decide +kernel
theorem d_Mod_anew_19 : decode b_Mod_anew 19 = .ok (.istore_n 1, 1) := by decide +kernel
theorem d_Mod_anew_20 : decode b_Mod_anew 20 = .ok (.iload_n 1, 1) := by decide +kernel
theorem d_Mod_anew_21 : decode b_Mod_anew 21 = .ok (.aload_n 0, 1) := by decide +kernel
theorem d_Mod_anew_22 : decode b_Mod_anew 22 = .ok (.getfield 72, 3) := by decide +kernel
theorem d_Mod_anew_25 : decode b_Mod_anew 25 = .ok (.if_icmp .ge 45, 3) := by decide +kernel
theorem d_Mod_anew_28 : decode b_Mod_anew 28 = .ok (.aload_n 0, 1) := by decide +kernel
theorem d_Mod_anew_29 : decode b_Mod_anew 29 = .ok (.getfield 66, 3) := by decide +kernel
theorem d_Mod_anew_32 : decode b_Mod_anew 32 = .ok (.iload_n 1, 1) := by decide +kernel
theorem d_Mod_anew_33 : decode b_Mod_anew 33 = .ok (.aload_n 0, 1) := by decide +kernel
theorem d_Mod_anew_34 : decode b_Mod_anew 34 = .ok (.getfield 13, 3) := by decide +kernel
theorem d_Mod_anew_37 : decode b_Mod_anew 37 = .ok (.iload_n 1, 1) := by decide +kernel
theorem d_Mod_anew_38 : decode b_Mod_anew 38 = .ok (.iaload, 1) := by decide +kernel
theorem d_Mod_anew_39 : decode b_Mod_anew 39 = .ok (.bipush (-2), 2) := by decide +kernel
theorem d_Mod_anew_41 : decode b_Mod_anew 41 = .ok (.if_icmp .ne 21, 3) := by decide +kernel
theorem d_Mod_anew_44 : decode b_Mod_anew 44 = .ok (.aload_n 0, 1) := by decide +kernel
theorem d_Mod_anew_45 : decode b_Mod_anew 45 = .ok (.getfield 31, 3) := by decide +kernel
theorem d_Mod_anew_48 : decode b_Mod_anew 48 = .ok (.aload_n 0, 1) := by decide +kernel
theorem d_Mod_anew_49 : decode b_Mod_anew 49 = .ok (.getfield 22, 3) := by decide +kernel
theorem d_Mod_anew_52 : decode b_Mod_anew 52 = .ok (.iload_n 1, 1) := by decide +kernel
theorem d_Mod_anew_53 : decode b_Mod_anew 53 = .ok (.iaload, 1) := by decide +kernel
theorem d_Mod_anew_54 : decode b_Mod_anew 54 = .ok (.baload, 1) := by decide +kernel
theorem d_Mod_anew_55 : decode b_Mod_anew 55 = .ok (.ifCond .eq 7, 3) := by decide +kernel
theorem d_Mod_anew_58 : decode b_Mod_anew 58 = .ok (.iconst 1, 1) := by decide +kernel
theorem d_Mod_anew_59 : decode b_Mod_anew 59 = .ok (.goto 4, 3) := by decide +kernel
theorem d_Mod_anew_62 : decode b_Mod_anew 62 = .ok (.iconst 0, 1) := by decide +kernel
theorem d_Mod_anew_63 : decode b_Mod_anew 63 = .ok (.bastore, 1) := by decide +kernel
theorem d_Mod_anew_64 : decode b_Mod_anew 64 = .ok (.iinc 1 1, 3) := by decide +kernel
theorem d_Mod_anew_67 : decode b_Mod_anew 67 = .ok (.goto (-47), 3) := by decide +kernel
theorem d_Mod_anew_70 : decode b_Mod_anew 70 = .ok (.return_, 1) := by decide +kernel
theorem d_Mod_beginning_0 : decode b_Mod_beginning 0 = .ok (.iconst 0, 1) := by decide +kernel
theorem d_Mod_beginning_1 : decode b_Mod_beginning 1 = .ok (.istore_n 1, 1) := by decide +kernel
theorem d_Mod_beginning_2 : decode b_Mod_beginning 2 = .ok (.iconst 0, 1) := by decide +kernel
theorem d_Mod_beginning_3 : decode b_Mod_beginning 3 = .ok (.istore_n 2, 1) := by decide +kernel
theorem d_Mod_beginning_4 : decode b_Mod_beginning 4 = .ok (.iload_n 2, 1) := by decide +kernel
theorem d_Mod_beginning_5 : decode b_Mod_beginning 5 = .ok (.aload_n 0, 1) := by decide +kernel
theorem d_Mod_beginning_6 : decode b_Mod_beginning 6 = .ok (.getfield 97, 3) := by decide +kernel
theorem d_Mod_beginning_9 : decode b_Mod_beginning 9 = .ok (.if_icmp .ge 28, 3) := by decide +kernel
theorem d_Mod_beginning_12 : decode b_Mod_beginning 12 = .ok (.iload_n 1, 1) := by decide +kernel
theorem d_Mod_beginning_13 : decode b_Mod_beginning 13 = .ok (.aload_n 0, 1) := by decide +kernel
theorem d_Mod_beginning_14 : decode b_Mod_beginning 14 = .ok (.getfield 31, 3) := by decide +kernel
theorem d_Mod_beginning_17 : decode b_Mod_beginning 17 = .ok (.iload_n 2, 1) := by decide +kernel
theorem d_Mod_beginning_18 : decode b_Mod_beginning 18 = .ok (.baload, 1) := by decide +kernel
theorem d_Mod_beginning_19 : decode b_Mod_beginning 19 = .ok (.ifCond .eq 9, 3) := by decide +kernel
theorem d_Mod_beginning_22 : decode b_Mod_beginning 22 = .ok (.iconst 1, 1) := by decide +kernel
theorem d_Mod_beginning_23 : decode b_Mod_beginning 23 = .ok (.iload_n 2, 1) := by decide +kernel
theorem d_Mod_beginning_24 : decode b_Mod_beginning 24 = .ok (.ishl, 1) := by decide +kernel
theorem d_Mod_beginning_25 : decode b_Mod_beginning 25 = .ok (.goto 4, 3) := by decide +kernel
theorem d_Mod_beginning_28 : decode b_Mod_beginning 28 = .ok (.iconst 0, 1) := by decide +kernel
theorem d_Mod_beginning_29 : decode b_Mod_beginning 29 = .ok (.ior, 1) := by decide +kernel
theorem d_Mod_beginning_30 : decode b_Mod_beginning 30 = .ok (.istore_n 1, 1) := by decide +kernel
theorem d_Mod_beginning_31 : decode b_Mod_beginning 31 = .ok (.iinc 2 1, 3) := by decide +kernel
theorem d_Mod_beginning_34 : decode b_Mod_beginning 34 = .ok (.goto (-30), 3) := by decide +kernel
theorem d_Mod_beginning_37 : decode b_Mod_beginning 37 = .ok (.iload_n 1, 1) := by decide +kernel
theorem d_Mod_beginning_38 : decode b_Mod_beginning 38 = .ok (.ireturn, 1) := by decide +kernel
theorem d_Mod_thrown_0 : decode b_Mod_thrown 0 = .ok (.aload_n 0, 1) := by decide +kernel
theorem d_Mod_thrown_1 : decode b_Mod_thrown 1 = .ok (.getfield 78, 3) := by decide +kernel
theorem d_Mod_thrown_4 : decode b_Mod_thrown 4 = .ok (.ireturn, 1) := by decide +kernel
theorem d_Mod_state_0 : decode b_Mod_state 0 = .ok (.aload_n 0, 1) := by decide +kernel
theorem d_Mod_state_1 : decode b_Mod_state 1 = .ok (.iload_n 1, 1) := by decide +kernel
theorem d_Mod_state_2 : decode b_Mod_state 2 = .ok (.iconst 2, 1) := by decide +kernel
theorem d_Mod_state_3 : decode b_Mod_state 3 = .ok (.invokestatic 110, 3) := by decide +kernel
theorem d_Mod_state_6 : decode b_Mod_state 6 = .ok (.ifCond .ne 7, 3) := by decide +kernel
theorem d_Mod_state_9 : decode b_Mod_state 9 = .ok (.iconst 1, 1) := by decide +kernel
theorem d_Mod_state_10 : decode b_Mod_state 10 = .ok (.goto 4, 3) := by decide +kernel
theorem d_Mod_state_13 : decode b_Mod_state 13 = .ok (.iconst 0, 1) := by decide +kernel
theorem d_Mod_state_14 : decode b_Mod_state 14 = .ok (.aload_n 0, 1) := by decide +kernel
theorem d_Mod_state_15 : decode b_Mod_state 15 = .ok (.getfield 97, 3) := by decide +kernel
theorem d_Mod_state_18 : decode b_Mod_state 18 = .ok (.bipush 14, 2) := by decide +kernel
theorem d_Mod_state_20 : decode b_Mod_state 20 = .ok (.if_icmp .eq 12, 3) := by decide +kernel
theorem d_Mod_state_23 : decode b_Mod_state 23 = .ok (.aload_n 0, 1) := by decide +kernel
theorem d_Mod_state_24 : decode b_Mod_state 24 = .ok (.getfield 72, 3) := by decide +kernel
theorem d_Mod_state_27 : decode b_Mod_state 27 = .ok (.bipush 100, 2) := by decide +kernel
theorem d_Mod_state_29 : decode b_Mod_state 29 = .ok (.if_icmp .ne 7, 3) := by decide +kernel
theorem d_Mod_state_32 : decode b_Mod_state 32 = .ok (.iconst 1, 1) := by decide +kernel
theorem d_Mod_state_33 : decode b_Mod_state 33 = .ok (.goto 4, 3) := by decide +kernel
theorem d_Mod_state_36 : decode b_Mod_state 36 = .ok (.iconst 0, 1) := by decide +kernel
theorem d_Mod_state_37 : decode b_Mod_state 37 = .ok (.invokevirtual 114, 3) := by decide +kernel
theorem d_Mod_state_40 : decode b_Mod_state 40 = .ok (.ifCond .eq 5, 3) := by decide +kernel
theorem d_Mod_state_43 : decode b_Mod_state 43 = .ok (.iconst 0, 1) := by decide +kernel
theorem d_Mod_state_44 : decode b_Mod_state 44 = .ok (.ireturn, 1) := by decide +kernel
theorem d_Mod_state_45 : decode b_Mod_state 45 = .ok (.aload_n 0, 1) := by decide +kernel
theorem d_Mod_state_46 : decode b_Mod_state 46 = .ok (.getfield 13, 3) := by decide +kernel
theorem d_Mod_state_49 : decode b_Mod_state 49 = .ok (.aload_n 0, 1) := by decide +kernel
theorem d_Mod_state_50 : decode b_Mod_state 50 = .ok (.getfield 72, 3) := by decide +kernel
theorem d_Mod_state_53 : decode b_Mod_state 53 = .ok (.bipush (-2), 2) := by decide +kernel
theorem d_Mod_state_55 : decode b_Mod_state 55 = .ok (.iastore, 1) := by decide +kernel
theorem d_Mod_state_56 : decode b_Mod_state 56 = .ok (.aload_n 0, 1) := by decide +kernel
theorem d_Mod_state_57 : decode b_Mod_state 57 = .ok (.getfield 22, 3) := by decide +kernel
theorem d_Mod_state_60 : decode b_Mod_state 60 = .ok (.aload_n 0, 1) := by decide +kernel
theorem d_Mod_state_61 : decode b_Mod_state 61 = .ok (.getfield 72, 3) := by decide +kernel
theorem d_Mod_state_64 : decode b_Mod_state 64 = .ok (.aload_n 0, 1) := by decide +kernel
theorem d_Mod_state_65 : decode b_Mod_state 65 = .ok (.getfield 97, 3) := by decide +kernel
theorem d_Mod_state_68 : decode b_Mod_state 68 = .ok (.iastore, 1) := by decide +kernel
theorem d_Mod_state_69 : decode b_Mod_state 69 = .ok (.aload_n 0, 1) := by decide +kernel
theorem d_Mod_state_70 : decode b_Mod_state 70 = .ok (.getfield 25, 3) := by decide +kernel
theorem d_Mod_state_73 : decode b_Mod_state 73 = .ok (.aload_n 0, 1) := by decide +kernel
theorem d_Mod_state_74 : decode b_Mod_state 74 = .ok (.getfield 97, 3) := by decide +kernel
theorem d_Mod_state_77 : decode b_Mod_state 77 = .ok (.aload_n 0, 1) := by decide +kernel
theorem d_Mod_state_78 : decode b_Mod_state 78 = .ok (.getfield 72, 3) := by decide +kernel
theorem d_Mod_state_81 : decode b_Mod_state 81 = .ok (.iastore, 1) := by decide +kernel
theorem d_Mod_state_82 : decode b_Mod_state 82 = .ok (.aload_n 0, 1) := by decide +kernel
theorem d_Mod_state_83 : decode b_Mod_state 83 = .ok (.getfield 28, 3) := by decide +kernel
theorem d_Mod_state_86 : decode b_Mod_state 86 = .ok (.aload_n 0, 1) := by decide +kernel
theorem d_Mod_state_87 : decode b_Mod_state 87 = .ok (.getfield 97, 3) := by decide +kernel
theorem d_Mod_state_90 : decode b_Mod_state 90 = .ok (.aload_n 0, 1) := by decide +kernel
theorem d_Mod_state_91 : decode b_Mod_state 91 = .ok (.getfield 72, 3) := by decide +kernel
theorem d_Mod_state_94 : decode b_Mod_state 94 = .ok (.iastore, 1) := by decide +kernel
theorem d_Mod_state_95 : decode b_Mod_state 95 = .ok (.aload_n 0, 1) := by decide +kernel
theorem d_Mod_state_96 : decode b_Mod_state 96 = .ok (.getfield 31, 3) := by decide +kernel
theorem d_Mod_state_99 : decode b_Mod_state 99 = .ok (.aload_n 0, 1) := by decide +kernel
theorem d_Mod_state_100 : decode b_Mod_state 100 = .ok (.getfield 97, 3) := by decide +kernel
theorem d_Mod_state_103 : decode b_Mod_state 103 = .ok (.iload_n 2, 1) := by decide +kernel
theorem d_Mod_state_104 : decode b_Mod_state 104 = .ok (.bastore, 1) := by decide +kernel
theorem d_Mod_state_105 : decode b_Mod_state 105 = .ok (.aload_n 0, 1) := by decide +kernel
theorem d_Mod_state_106 : decode b_Mod_state 106 = .ok (.getfield 7, 3) := by decide +kernel
theorem d_Mod_state_109 : decode b_Mod_state 109 = .ok (.iload_n 1, 1) := by decide +kernel
theorem d_Mod_state_110 : decode b_Mod_state 110 = .ok (.dup2, 1) := by decide +kernel
theorem d_Mod_state_111 : decode b_Mod_state 111 = .ok (.iaload, 1) := by decide +kernel
theorem d_Mod_state_112 : decode b_Mod_state 112 = .ok (.iconst 1, 1) := by decide +kernel
theorem d_Mod_state_113 : decode b_Mod_state 113 = .ok (.iadd, 1) := by decide +kernel
theorem d_Mod_state_114 : decode b_Mod_state 114 = .ok (.iastore, 1) := by decide +kernel
theorem d_Mod_state_115 : decode b_Mod_state 115 = .ok (.aload_n 0, 1) := by decide +kernel
theorem d_Mod_state_116 : decode b_Mod_state 116 = .ok (.dup, 1) := by decide +kernel
theorem d_Mod_state_117 : decode b_Mod_state 117 = .ok (.getfield 97, 3) := by decide +kernel
theorem d_Mod_state_120 : decode b_Mod_state 120 = .ok (.iconst 1, 1) := by decide +kernel
theorem d_Mod_state_121 : decode b_Mod_state 121 = .ok (.iadd, 1) := by decide +kernel
theorem d_Mod_state_122 : decode b_Mod_state 122 = .ok (.putfield 97, 3) := by decide +kernel
theorem d_Mod_state_125 : decode b_Mod_state 125 = .ok (.aload_n 0, 1) := by decide +kernel
theorem d_Mod_state_126 : decode b_Mod_state 126 = .ok (.dup, 1) := by decide +kernel
theorem d_Mod_state_127 : decode b_Mod_state 127 = .ok (.getfield 72, 3) := by decide +kernel
theorem d_Mod_state_130 : decode b_Mod_state 130 = .ok (.iconst 1, 1) := by decide +kernel
theorem d_Mod_state_131 : decode b_Mod_state 131 = .ok (.iadd, 1) := by decide +kernel
theorem d_Mod_state_132 : decode b_Mod_state 132 = .ok (.putfield 72, 3) := by decide +kernel
theorem d_Mod_state_135 : decode b_Mod_state 135 = .ok (.aload_n 0, 1) := by decide +kernel
theorem d_Mod_state_136 : decode b_Mod_state 136 = .ok (.invokevirtual 75, 3) := by decide +kernel
theorem d_Mod_state_139 : decode b_Mod_state 139 = .ok (.aload_n 0, 1) := by decide +kernel
theorem d_Mod_state_140 : decode b_Mod_state 140 = .ok (.getfield 72, 3) := by decide +kernel
theorem d_Mod_state_143 : decode b_Mod_state 143 = .ok (.iconst 1, 1) := by decide +kernel
theorem d_Mod_state_144 : decode b_Mod_state 144 = .ok (.isub, 1) := by decide +kernel
theorem d_Mod_state_145 : decode b_Mod_state 145 = .ok (.ireturn, 1) := by decide +kernel
theorem d_Mod_isOf_0 : decode b_Mod_isOf 0 = .ok (.iload_n 0, 1) := by decide +kernel
theorem d_Mod_isOf_1 : decode b_Mod_isOf 1 = .ok (.ifCond .lt 12, 3) := by decide +kernel
theorem d_Mod_isOf_4 : decode b_Mod_isOf 4 = .ok (.iload_n 0, 1) := by decide +kernel
theorem d_Mod_isOf_5 : decode b_Mod_isOf 5 = .ok (.iload_n 1, 1) := by decide +kernel
theorem d_Mod_isOf_6 : decode b_Mod_isOf 6 = .ok (.if_icmp .ge 7, 3) := by decide +kernel
theorem d_Mod_isOf_9 : decode b_Mod_isOf 9 = .ok (.iconst 1, 1) := by decide +kernel
theorem d_Mod_isOf_10 : decode b_Mod_isOf 10 = .ok (.goto 4, 3) := by decide +kernel
theorem d_Mod_isOf_13 : decode b_Mod_isOf 13 = .ok (.iconst 0, 1) := by decide +kernel
theorem d_Mod_isOf_14 : decode b_Mod_isOf 14 = .ok (.ireturn, 1) := by decide +kernel
theorem d_Mod_throwing_0 : decode b_Mod_throwing 0 = .ok (.aload_n 0, 1) := by decide +kernel
theorem d_Mod_throwing_1 : decode b_Mod_throwing 1 = .ok (.iload_n 1, 1) := by decide +kernel
theorem d_Mod_throwing_2 : decode b_Mod_throwing 2 = .ok (.ifCond .eq 7, 3) := by decide +kernel
theorem d_Mod_throwing_5 : decode b_Mod_throwing 5 = .ok (.iconst 1, 1) := by decide +kernel
theorem d_Mod_throwing_6 : decode b_Mod_throwing 6 = .ok (.goto 12, 3) := by decide +kernel
theorem d_Mod_throwing_9 : decode b_Mod_throwing 9 = .ok (.iload_n 2, 1) := by decide +kernel
theorem d_Mod_throwing_10 : decode b_Mod_throwing 10 = .ok (.ifCond .eq 7, 3) := by decide +kernel
theorem d_Mod_throwing_13 : decode b_Mod_throwing 13 = .ok (.iconst 2, 1) := by decide +kernel
theorem d_Mod_throwing_14 : decode b_Mod_throwing 14 = .ok (.goto 4, 3) := by decide +kernel
theorem d_Mod_throwing_17 : decode b_Mod_throwing 17 = .ok (.iconst 0, 1) := by decide +kernel
theorem d_Mod_throwing_18 : decode b_Mod_throwing 18 = .ok (.putfield 78, 3) := by decide +kernel
theorem d_Mod_throwing_21 : decode b_Mod_throwing 21 = .ok (.aload_n 0, 1) := by decide +kernel
theorem d_Mod_throwing_22 : decode b_Mod_throwing 22 = .ok (.getfield 78, 3) := by decide +kernel
theorem d_Mod_throwing_25 : decode b_Mod_throwing 25 = .ok (.ifCond .le 7, 3) := by decide +kernel
theorem d_Mod_throwing_28 : decode b_Mod_throwing 28 = .ok (.iconst 1, 1) := by decide +kernel
theorem d_Mod_throwing_29 : decode b_Mod_throwing 29 = .ok (.goto 4, 3) := by decide +kernel
theorem d_Mod_throwing_32 : decode b_Mod_throwing 32 = .ok (.iconst 0, 1) := by decide +kernel
theorem d_Mod_throwing_33 : decode b_Mod_throwing 33 = .ok (.ireturn, 1) := by decide +kernel
theorem d_Mod_gate_0 : decode b_Mod_gate 0 = .ok (.iload_n 1, 1) := by decide +kernel
theorem d_Mod_gate_1 : decode b_Mod_gate 1 = .ok (.bipush 6, 2) := by decide +kernel
theorem d_Mod_gate_3 : decode b_Mod_gate 3 = .ok (.invokestatic 110, 3) := by decide +kernel
theorem d_Mod_gate_6 : decode b_Mod_gate 6 = .ok (.ifCond .eq 35, 3) := by decide +kernel
theorem d_Mod_gate_9 : decode b_Mod_gate 9 = .ok (.iload_n 1, 1) := by decide +kernel
theorem d_Mod_gate_10 : decode b_Mod_gate 10 = .ok (.iconst 4, 1) := by decide +kernel
theorem d_Mod_gate_11 : decode b_Mod_gate 11 = .ok (.if_icmp .ge 14, 3) := by decide +kernel
theorem d_Mod_gate_14 : decode b_Mod_gate 14 = .ok (.iload_n 2, 1) := by decide +kernel
theorem d_Mod_gate_15 : decode b_Mod_gate 15 = .ok (.aload_n 0, 1) := by decide +kernel
theorem d_Mod_gate_16 : decode b_Mod_gate 16 = .ok (.getfield 72, 3) := by decide +kernel
theorem d_Mod_gate_19 : decode b_Mod_gate 19 = .ok (.invokestatic 110, 3) := by decide +kernel
theorem d_Mod_gate_22 : decode b_Mod_gate 22 = .ok (.ifCond .eq 19, 3) := by decide +kernel
theorem d_Mod_gate_25 : decode b_Mod_gate 25 = .ok (.iload_n 1, 1) := by decide +kernel
theorem d_Mod_gate_26 : decode b_Mod_gate 26 = .ok (.iconst 3, 1) := by decide +kernel
theorem d_Mod_gate_27 : decode b_Mod_gate 27 = .ok (.if_icmp .ge 18, 3) := by decide +kernel
theorem d_Mod_gate_30 : decode b_Mod_gate 30 = .ok (.iload_n 3, 1) := by decide +kernel
theorem d_Mod_gate_31 : decode b_Mod_gate 31 = .ok (.aload_n 0, 1) := by decide +kernel
theorem d_Mod_gate_32 : decode b_Mod_gate 32 = .ok (.getfield 72, 3) := by decide +kernel
theorem d_Mod_gate_35 : decode b_Mod_gate 35 = .ok (.invokestatic 110, 3) := by decide +kernel
theorem d_Mod_gate_38 : decode b_Mod_gate 38 = .ok (.ifCond .ne 7, 3) := by decide +kernel
theorem d_Mod_gate_41 : decode b_Mod_gate 41 = .ok (.iconst 1, 1) := by decide +kernel
theorem d_Mod_gate_42 : decode b_Mod_gate 42 = .ok (.goto 4, 3) := by decide +kernel
theorem d_Mod_gate_45 : decode b_Mod_gate 45 = .ok (.iconst 0, 1) := by decide +kernel
theorem d_Mod_gate_46 : decode b_Mod_gate 46 = .ok (.istore 4, 2) := by decide +kernel
theorem d_Mod_gate_48 : decode b_Mod_gate 48 = .ok (.aload_n 0, 1) := by decide +kernel
theorem d_Mod_gate_49 : decode b_Mod_gate 49 = .ok (.iload 4, 2) := by decide +kernel
theorem d_Mod_gate_51 : decode b_Mod_gate 51 = .ok (.aload_n 0, 1) := by decide +kernel
theorem d_Mod_gate_52 : decode b_Mod_gate 52 = .ok (.getfield 72, 3) := by decide +kernel
theorem d_Mod_gate_55 : decode b_Mod_gate 55 = .ok (.bipush 100, 2) := by decide +kernel
theorem d_Mod_gate_57 : decode b_Mod_gate 57 = .ok (.if_icmp .ne 7, 3) := by decide +kernel
theorem d_Mod_gate_60 : decode b_Mod_gate 60 = .ok (.iconst 1, 1) := by decide +kernel
theorem d_Mod_gate_61 : decode b_Mod_gate 61 = .ok (.goto 4, 3) := by decide +kernel
theorem d_Mod_gate_64 : decode b_Mod_gate 64 = .ok (.iconst 0, 1) := by decide +kernel
theorem d_Mod_gate_65 : decode b_Mod_gate 65 = .ok (.invokevirtual 114, 3) := by decide +kernel
theorem d_Mod_gate_68 : decode b_Mod_gate 68 = .ok (.ifCond .eq 5, 3) := by decide +kernel
theorem d_Mod_gate_71 : decode b_Mod_gate 71 = .ok (.iconst 0, 1) := by decide +kernel
theorem d_Mod_gate_72 : decode b_Mod_gate 72 = .ok (.ireturn, 1) := by decide +kernel
theorem d_Mod_gate_73 : decode b_Mod_gate 73 = .ok (.aload_n 0, 1) := by decide +kernel
theorem d_Mod_gate_74 : decode b_Mod_gate 74 = .ok (.getfield 13, 3) := by decide +kernel
theorem d_Mod_gate_77 : decode b_Mod_gate 77 = .ok (.aload_n 0, 1) := by decide +kernel
theorem d_Mod_gate_78 : decode b_Mod_gate 78 = .ok (.getfield 72, 3) := by decide +kernel
theorem d_Mod_gate_81 : decode b_Mod_gate 81 = .ok (.iload_n 1, 1) := by decide +kernel
theorem d_Mod_gate_82 : decode b_Mod_gate 82 = .ok (.iastore, 1) := by decide +kernel
theorem d_Mod_gate_83 : decode b_Mod_gate 83 = .ok (.aload_n 0, 1) := by decide +kernel
theorem d_Mod_gate_84 : decode b_Mod_gate 84 = .ok (.getfield 16, 3) := by decide +kernel
theorem d_Mod_gate_87 : decode b_Mod_gate 87 = .ok (.aload_n 0, 1) := by decide +kernel
theorem d_Mod_gate_88 : decode b_Mod_gate 88 = .ok (.getfield 72, 3) := by decide +kernel
theorem d_Mod_gate_91 : decode b_Mod_gate 91 = .ok (.iload_n 1, 1) := by decide +kernel
theorem d_Mod_gate_92 : decode b_Mod_gate 92 = .ok (.iconst 4, 1) := by decide +kernel
theorem d_Mod_gate_93 : decode b_Mod_gate 93 = .ok (.if_icmp .ge 7, 3) := by decide +kernel
theorem d_Mod_gate_96 : decode b_Mod_gate 96 = .ok (.iload_n 2, 1) := by decide +kernel
theorem d_Mod_gate_97 : decode b_Mod_gate 97 = .ok (.goto 4, 3) := by decide +kernel
theorem d_Mod_gate_100 : decode b_Mod_gate 100 = .ok (.iconst 0, 1) := by decide +kernel
theorem d_Mod_gate_101 : decode b_Mod_gate 101 = .ok (.iastore, 1) := by decide +kernel
theorem d_Mod_gate_102 : decode b_Mod_gate 102 = .ok (.aload_n 0, 1) := by decide +kernel
theorem d_Mod_gate_103 : decode b_Mod_gate 103 = .ok (.getfield 19, 3) := by decide +kernel
theorem d_Mod_gate_106 : decode b_Mod_gate 106 = .ok (.aload_n 0, 1) := by decide +kernel
theorem d_Mod_gate_107 : decode b_Mod_gate 107 = .ok (.getfield 72, 3) := by decide +kernel
theorem d_Mod_gate_110 : decode b_Mod_gate 110 = .ok (.iload_n 1, 1) := by decide +kernel
theorem d_Mod_gate_111 : decode b_Mod_gate 111 = .ok (.iconst 3, 1) := by decide +kernel
theorem d_Mod_gate_112 : decode b_Mod_gate 112 = .ok (.if_icmp .ge 7, 3) := by decide +kernel
theorem d_Mod_gate_115 : decode b_Mod_gate 115 = .ok (.iload_n 3, 1) := by decide +kernel
theorem d_Mod_gate_116 : decode b_Mod_gate 116 = .ok (.goto 4, 3) := by decide +kernel
theorem d_Mod_gate_119 : decode b_Mod_gate 119 = .ok (.iconst 0, 1) := by decide +kernel
theorem d_Mod_gate_120 : decode b_Mod_gate 120 = .ok (.iastore, 1) := by decide +kernel
theorem d_Mod_gate_121 : decode b_Mod_gate 121 = .ok (.aload_n 0, 1) := by decide +kernel
theorem d_Mod_gate_122 : decode b_Mod_gate 122 = .ok (.dup, 1) := by decide +kernel
theorem d_Mod_gate_123 : decode b_Mod_gate 123 = .ok (.getfield 118, 3) := by decide +kernel
theorem d_Mod_gate_126 : decode b_Mod_gate 126 = .ok (.iconst 1, 1) := by decide +kernel
theorem d_Mod_gate_127 : decode b_Mod_gate 127 = .ok (.iadd, 1) := by decide +kernel
theorem d_Mod_gate_128 : decode b_Mod_gate 128 = .ok (.putfield 118, 3) := by decide +kernel
theorem d_Mod_gate_131 : decode b_Mod_gate 131 = .ok (.aload_n 0, 1) := by decide +kernel
theorem d_Mod_gate_132 : decode b_Mod_gate 132 = .ok (.dup, 1) := by decide +kernel
theorem d_Mod_gate_133 : decode b_Mod_gate 133 = .ok (.getfield 72, 3) := by decide +kernel
theorem d_Mod_gate_136 : decode b_Mod_gate 136 = .ok (.iconst 1, 1) := by decide +kernel
theorem d_Mod_gate_137 : decode b_Mod_gate 137 = .ok (.iadd, 1) := by decide +kernel
theorem d_Mod_gate_138 : decode b_Mod_gate 138 = .ok (.putfield 72, 3) := by decide +kernel
theorem d_Mod_gate_141 : decode b_Mod_gate 141 = .ok (.aload_n 0, 1) := by decide +kernel
theorem d_Mod_gate_142 : decode b_Mod_gate 142 = .ok (.invokevirtual 75, 3) := by decide +kernel
theorem d_Mod_gate_145 : decode b_Mod_gate 145 = .ok (.aload_n 0, 1) := by decide +kernel
theorem d_Mod_gate_146 : decode b_Mod_gate 146 = .ok (.getfield 72, 3) := by decide +kernel
theorem d_Mod_gate_149 : decode b_Mod_gate 149 = .ok (.iconst 1, 1) := by decide +kernel
theorem d_Mod_gate_150 : decode b_Mod_gate 150 = .ok (.isub, 1) := by decide +kernel
theorem d_Mod_gate_151 : decode b_Mod_gate 151 = .ok (.ireturn, 1) := by decide +kernel
theorem d_Mod_next_0 : decode b_Mod_next 0 = .ok (.aload_n 0, 1) := by decide +kernel
theorem d_Mod_next_1 : decode b_Mod_next 1 = .ok (.iload_n 1, 1) := by decide +kernel
theorem d_Mod_next_2 : decode b_Mod_next 2 = .ok (.aload_n 0, 1) := by decide +kernel
theorem d_Mod_next_3 : decode b_Mod_next 3 = .ok (.getfield 72, 3) := by decide +kernel
theorem d_Mod_next_6 : decode b_Mod_next 6 = .ok (.invokestatic 110, 3) := by decide +kernel
theorem d_Mod_next_9 : decode b_Mod_next 9 = .ok (.ifCond .eq 40, 3) := by decide +kernel
theorem d_Mod_next_12 : decode b_Mod_next 12 = .ok (.aload_n 0, 1) := by decide +kernel
theorem d_Mod_next_13 : decode b_Mod_next 13 = .ok (.getfield 13, 3) := by decide +kernel
theorem d_Mod_next_16 : decode b_Mod_next 16 = .ok (.iload_n 1, 1) := by decide +kernel
theorem d_Mod_next_17 : decode b_Mod_next 17 = .ok (.aload_n 0, 1) := by decide +kernel
theorem d_Mod_next_18 : decode b_Mod_next 18 = .ok (.getfield 72, 3) := by decide +kernel
theorem d_Mod_next_21 : decode b_Mod_next 21 = .ok (.invokestatic 110, 3) := by decide +kernel
theorem d_Mod_next_24 : decode b_Mod_next 24 = .ok (.ifCond .eq 7, 3) := by decide +kernel
theorem d_Mod_next_27 : decode b_Mod_next 27 = .ok (.iload_n 1, 1) := by decide +kernel
theorem d_Mod_next_28 : decode b_Mod_next 28 = .ok (.goto 4, 3) := by decide +kernel
theorem d_Mod_next_31 : decode b_Mod_next 31 = .ok (.iconst 0, 1) := by decide +kernel
theorem d_Mod_next_32 : decode b_Mod_next 32 = .ok (.iaload, 1) := by decide +kernel
theorem d_Mod_next_33 : decode b_Mod_next 33 = .ok (.bipush (-2), 2) := by decide +kernel
theorem d_Mod_next_35 : decode b_Mod_next 35 = .ok (.if_icmp .ne 14, 3) := by decide +kernel
theorem d_Mod_next_38 : decode b_Mod_next 38 = .ok (.iload_n 2, 1) := by decide +kernel
theorem d_Mod_next_39 : decode b_Mod_next 39 = .ok (.aload_n 0, 1) := by decide +kernel
theorem d_Mod_next_40 : decode b_Mod_next 40 = .ok (.getfield 72, 3) := by decide +kernel
theorem d_Mod_next_43 : decode b_Mod_next 43 = .ok (.invokestatic 110, 3) := by decide +kernel
theorem d_Mod_next_46 : decode b_Mod_next 46 = .ok (.ifCond .ne 7, 3) := by decide +kernel
theorem d_Mod_next_49 : decode b_Mod_next 49 = .ok (.iconst 1, 1) := by decide +kernel
theorem d_Mod_next_50 : decode b_Mod_next 50 = .ok (.goto 4, 3) := by decide +kernel
theorem d_Mod_next_53 : decode b_Mod_next 53 = .ok (.iconst 0, 1) := by decide +kernel
theorem d_Mod_next_54 : decode b_Mod_next 54 = .ok (.iconst 0, 1) := by decide +kernel
theorem d_Mod_next_55 : decode b_Mod_next 55 = .ok (.invokevirtual 114, 3) := by decide +kernel
theorem d_Mod_next_58 : decode b_Mod_next 58 = .ok (.ifCond .eq 5, 3) := by decide +kernel
theorem d_Mod_next_61 : decode b_Mod_next 61 = .ok (.iconst 0, 1) := by decide +kernel
theorem d_Mod_next_62 : decode b_Mod_next 62 = .ok (.ireturn, 1) := by decide +kernel
theorem d_Mod_next_63 : decode b_Mod_next 63 = .ok (.aload_n 0, 1) := by decide +kernel
theorem d_Mod_next_64 : decode b_Mod_next 64 = .ok (.getfield 28, 3) := by decide +kernel
theorem d_Mod_next_67 : decode b_Mod_next 67 = .ok (.aload_n 0, 1) := by decide +kernel
theorem d_Mod_next_68 : decode b_Mod_next 68 = .ok (.getfield 22, 3) := by decide +kernel
theorem d_Mod_next_71 : decode b_Mod_next 71 = .ok (.iload_n 1, 1) := by decide +kernel
theorem d_Mod_next_72 : decode b_Mod_next 72 = .ok (.iaload, 1) := by decide +kernel
theorem d_Mod_next_73 : decode b_Mod_next 73 = .ok (.iaload, 1) := by decide +kernel
theorem d_Mod_next_74 : decode b_Mod_next 74 = .ok (.istore_n 3, 1) := by decide +kernel
theorem d_Mod_next_75 : decode b_Mod_next 75 = .ok (.aload_n 0, 1) := by decide +kernel
theorem d_Mod_next_76 : decode b_Mod_next 76 = .ok (.getfield 28, 3) := by decide +kernel
theorem d_Mod_next_79 : decode b_Mod_next 79 = .ok (.aload_n 0, 1) := by decide +kernel
theorem d_Mod_next_80 : decode b_Mod_next 80 = .ok (.getfield 22, 3) := by decide +kernel
theorem d_Mod_next_83 : decode b_Mod_next 83 = .ok (.iload_n 1, 1) := by decide +kernel
theorem d_Mod_next_84 : decode b_Mod_next 84 = .ok (.iaload, 1) := by decide +kernel
theorem d_Mod_next_85 : decode b_Mod_next 85 = .ok (.iload_n 2, 1) := by decide +kernel
theorem d_Mod_next_86 : decode b_Mod_next 86 = .ok (.iastore, 1) := by decide +kernel
theorem d_Mod_next_87 : decode b_Mod_next 87 = .ok (.aload_n 0, 1) := by decide +kernel
theorem d_Mod_next_88 : decode b_Mod_next 88 = .ok (.invokevirtual 75, 3) := by decide +kernel
theorem d_Mod_next_91 : decode b_Mod_next 91 = .ok (.iload_n 3, 1) := by decide +kernel
theorem d_Mod_next_92 : decode b_Mod_next 92 = .ok (.ireturn, 1) := by decide +kernel
theorem d_Mod_compare_0 : decode b_Mod_compare 0 = .ok (.aload_n 0, 1) := by decide +kernel
theorem d_Mod_compare_1 : decode b_Mod_compare 1 = .ok (.iload_n 1, 1) := by decide +kernel
theorem d_Mod_compare_2 : decode b_Mod_compare 2 = .ok (.aload_n 0, 1) := by decide +kernel
theorem d_Mod_compare_3 : decode b_Mod_compare 3 = .ok (.getfield 72, 3) := by decide +kernel
theorem d_Mod_compare_6 : decode b_Mod_compare 6 = .ok (.invokestatic 110, 3) := by decide +kernel
theorem d_Mod_compare_9 : decode b_Mod_compare 9 = .ok (.ifCond .eq 14, 3) := by decide +kernel
theorem d_Mod_compare_12 : decode b_Mod_compare 12 = .ok (.iload_n 2, 1) := by decide +kernel
theorem d_Mod_compare_13 : decode b_Mod_compare 13 = .ok (.aload_n 0, 1) := by decide +kernel
theorem d_Mod_compare_14 : decode b_Mod_compare 14 = .ok (.getfield 72, 3) := by decide +kernel
theorem d_Mod_compare_17 : decode b_Mod_compare 17 = .ok (.invokestatic 110, 3) := by decide +kernel
theorem d_Mod_compare_20 : decode b_Mod_compare 20 = .ok (.ifCond .ne 7, 3) := by decide +kernel
theorem d_Mod_compare_23 : decode b_Mod_compare 23 = .ok (.iconst 1, 1) := by decide +kernel
theorem d_Mod_compare_24 : decode b_Mod_compare 24 = .ok (.goto 4, 3) := by decide +kernel
theorem d_Mod_compare_27 : decode b_Mod_compare 27 = .ok (.iconst 0, 1) := by decide +kernel
theorem d_Mod_compare_28 : decode b_Mod_compare 28 = .ok (.aload_n 0, 1) := by decide +kernel
theorem d_Mod_compare_29 : decode b_Mod_compare 29 = .ok (.getfield 121, 3) := by decide +kernel
theorem d_Mod_compare_32 : decode b_Mod_compare 32 = .ok (.bipush 16, 2) := by decide +kernel
theorem d_Mod_compare_34 : decode b_Mod_compare 34 = .ok (.if_icmp .ne 7, 3) := by decide +kernel
theorem d_Mod_compare_37 : decode b_Mod_compare 37 = .ok (.iconst 1, 1) := by decide +kernel
theorem d_Mod_compare_38 : decode b_Mod_compare 38 = .ok (.goto 4, 3) := by decide +kernel
theorem d_Mod_compare_41 : decode b_Mod_compare 41 = .ok (.iconst 0, 1) := by decide +kernel
theorem d_Mod_compare_42 : decode b_Mod_compare 42 = .ok (.invokevirtual 114, 3) := by decide +kernel
theorem d_Mod_compare_45 : decode b_Mod_compare 45 = .ok (.ifCond .eq 5, 3) := by decide +kernel
theorem d_Mod_compare_48 : decode b_Mod_compare 48 = .ok (.iconst 0, 1) := by decide +kernel
theorem d_Mod_compare_49 : decode b_Mod_compare 49 = .ok (.ireturn, 1) := by decide +kernel
theorem d_Mod_compare_50 : decode b_Mod_compare 50 = .ok (.aload_n 0, 1) := by decide +kernel
theorem d_Mod_compare_51 : decode b_Mod_compare 51 = .ok (.getfield 35, 3) := by decide +kernel
theorem d_Mod_compare_54 : decode b_Mod_compare 54 = .ok (.aload_n 0, 1) := by decide +kernel
theorem d_Mod_compare_55 : decode b_Mod_compare 55 = .ok (.getfield 121, 3) := by decide +kernel
theorem d_Mod_compare_58 : decode b_Mod_compare 58 = .ok (.iload_n 1, 1) := by decide +kernel
theorem d_Mod_compare_59 : decode b_Mod_compare 59 = .ok (.iastore, 1) := by decide +kernel
theorem d_Mod_compare_60 : decode b_Mod_compare 60 = .ok (.aload_n 0, 1) := by decide +kernel
theorem d_Mod_compare_61 : decode b_Mod_compare 61 = .ok (.getfield 38, 3) := by decide +kernel
theorem d_Mod_compare_64 : decode b_Mod_compare 64 = .ok (.aload_n 0, 1) := by decide +kernel
theorem d_Mod_compare_65 : decode b_Mod_compare 65 = .ok (.getfield 121, 3) := by decide +kernel
theorem d_Mod_compare_68 : decode b_Mod_compare 68 = .ok (.iload_n 2, 1) := by decide +kernel
theorem d_Mod_compare_69 : decode b_Mod_compare 69 = .ok (.iastore, 1) := by decide +kernel
theorem d_Mod_compare_70 : decode b_Mod_compare 70 = .ok (.aload_n 0, 1) := by decide +kernel
theorem d_Mod_compare_71 : decode b_Mod_compare 71 = .ok (.dup, 1) := by decide +kernel
theorem d_Mod_compare_72 : decode b_Mod_compare 72 = .ok (.getfield 121, 3) := by decide +kernel
theorem d_Mod_compare_75 : decode b_Mod_compare 75 = .ok (.iconst 1, 1) := by decide +kernel
theorem d_Mod_compare_76 : decode b_Mod_compare 76 = .ok (.iadd, 1) := by decide +kernel
theorem d_Mod_compare_77 : decode b_Mod_compare 77 = .ok (.putfield 121, 3) := by decide +kernel
theorem d_Mod_compare_80 : decode b_Mod_compare 80 = .ok (.aload_n 0, 1) := by decide +kernel
theorem d_Mod_compare_81 : decode b_Mod_compare 81 = .ok (.invokevirtual 75, 3) := by decide +kernel
theorem d_Mod_compare_84 : decode b_Mod_compare 84 = .ok (.aload_n 0, 1) := by decide +kernel
theorem d_Mod_compare_85 : decode b_Mod_compare 85 = .ok (.getfield 121, 3) := by decide +kernel
theorem d_Mod_compare_88 : decode b_Mod_compare 88 = .ok (.ireturn, 1) := by decide +kernel
theorem d_Mod_search_0 : decode b_Mod_search 0 = .ok (.aload_n 0, 1) := by decide +kernel
theorem d_Mod_search_1 : decode b_Mod_search 1 = .ok (.iload_n 1, 1) := by decide +kernel
theorem d_Mod_search_2 : decode b_Mod_search 2 = .ok (.iconst 1, 1) := by decide +kernel
theorem d_Mod_search_3 : decode b_Mod_search 3 = .ok (.if_icmp .lt 10, 3) := by decide +kernel
theorem d_Mod_search_6 : decode b_Mod_search 6 = .ok (.iload_n 1, 1) := by decide +kernel
theorem d_Mod_search_7 : decode b_Mod_search 7 = .ok (.sipush 20000, 3) := by decide +kernel
theorem d_Mod_search_10 : decode b_Mod_search 10 = .ok (.if_icmp .le 7, 3) := by decide +kernel
theorem d_Mod_search_13 : decode b_Mod_search 13 = .ok (.iconst 1, 1) := by decide +kernel
theorem d_Mod_search_14 : decode b_Mod_search 14 = .ok (.goto 4, 3) := by decide +kernel
theorem d_Mod_search_17 : decode b_Mod_search 17 = .ok (.iconst 0, 1) := by decide +kernel
theorem d_Mod_search_18 : decode b_Mod_search 18 = .ok (.iconst 0, 1) := by decide +kernel
theorem d_Mod_search_19 : decode b_Mod_search 19 = .ok (.invokevirtual 114, 3) := by decide +kernel
theorem d_Mod_search_22 : decode b_Mod_search 22 = .ok (.ifCond .eq 5, 3) := by decide +kernel
theorem d_Mod_search_25 : decode b_Mod_search 25 = .ok (.iconst 0, 1) := by decide +kernel
theorem d_Mod_search_26 : decode b_Mod_search 26 = .ok (.ireturn, 1) := by decide +kernel
theorem d_Mod_search_27 : decode b_Mod_search 27 = .ok (.aload_n 0, 1) := by decide +kernel
theorem d_Mod_search_28 : decode b_Mod_search 28 = .ok (.getfield 81, 3) := by decide +kernel
theorem d_Mod_search_31 : decode b_Mod_search 31 = .ok (.ifCond .ne 20, 3) := by decide +kernel
theorem d_Mod_search_34 : decode b_Mod_search 34 = .ok (.aload_n 0, 1) := by decide +kernel
theorem d_Mod_search_35 : decode b_Mod_search 35 = .ok (.aload_n 0, 1) := by decide +kernel
theorem d_Mod_search_36 : decode b_Mod_search 36 = .ok (.invokevirtual 103, 3) := by decide +kernel
theorem d_Mod_search_39 : decode b_Mod_search 39 = .ok (.iconst (-1), 1) := by decide +kernel
theorem d_Mod_search_40 : decode b_Mod_search 40 = .ok (.iconst 0, 1) := by decide +kernel
theorem d_Mod_search_41 : decode b_Mod_search 41 = .ok (.invokevirtual 138, 3) := by decide +kernel
theorem d_Mod_search_44 : decode b_Mod_search 44 = .ok (.aload_n 0, 1) := by decide +kernel
theorem d_Mod_search_45 : decode b_Mod_search 45 = .ok (.getfield 53, 3) := by decide +kernel
theorem d_Mod_search_48 : decode b_Mod_search 48 = .ok (.iconst 0, 1) := by decide +kernel
theorem d_Mod_search_49 : decode b_Mod_search 49 = .ok (.iconst 0, 1) := by decide +kernel
theorem d_Mod_search_50 : decode b_Mod_search 50 = .ok (.iastore, 1) := by decide +kernel
theorem d_Mod_search_51 : decode b_Mod_search 51 = .ok (.aload_n 0, 1) := by decide +kernel
theorem d_Mod_search_52 : decode b_Mod_search 52 = .ok (.getfield 91, 3) := by decide +kernel
theorem d_Mod_search_55 : decode b_Mod_search 55 = .ok (.ifCond .ne 32, 3) := by decide +kernel
theorem d_Mod_search_58 : decode b_Mod_search 58 = .ok (.aload_n 0, 1) := by decide +kernel
theorem d_Mod_search_59 : decode b_Mod_search 59 = .ok (.getfield 87, 3) := by decide +kernel
theorem d_Mod_search_62 : decode b_Mod_search 62 = .ok (.ifCond .ne 25, 3) := by decide +kernel
theorem d_Mod_search_65 : decode b_Mod_search 65 = .ok (.aload_n 0, 1) := by decide +kernel
theorem d_Mod_search_66 : decode b_Mod_search 66 = .ok (.getfield 84, 3) := by decide +kernel
theorem d_Mod_search_69 : decode b_Mod_search 69 = .ok (.iload_n 1, 1) := by decide +kernel
theorem d_Mod_search_70 : decode b_Mod_search 70 = .ok (.if_icmp .ge 17, 3) := by decide +kernel
theorem d_Mod_search_73 : decode b_Mod_search 73 = .ok (.aload_n 0, 1) := by decide +kernel
theorem d_Mod_search_74 : decode b_Mod_search 74 = .ok (.invokevirtual 142, 3) := by decide +kernel
theorem d_Mod_search_77 : decode b_Mod_search 77 = .ok (.ifCond .ne (-26), 3) := by decide +kernel
theorem d_Mod_search_80 : decode b_Mod_search 80 = .ok (.aload_n 0, 1) := by decide +kernel
theorem d_Mod_search_81 : decode b_Mod_search 81 = .ok (.invokevirtual 146, 3) := by decide +kernel
theorem d_Mod_search_84 : decode b_Mod_search 84 = .ok (.goto (-33), 3) := by decide +kernel
theorem d_Mod_search_87 : decode b_Mod_search 87 = .ok (.aload_n 0, 1) := by decide +kernel
theorem d_Mod_search_88 : decode b_Mod_search 88 = .ok (.getfield 91, 3) := by decide +kernel
theorem d_Mod_search_91 : decode b_Mod_search 91 = .ok (.ifCond .le 7, 3) := by decide +kernel
theorem d_Mod_search_94 : decode b_Mod_search 94 = .ok (.iconst 0, 1) := by decide +kernel
theorem d_Mod_search_95 : decode b_Mod_search 95 = .ok (.goto 15, 3) := by decide +kernel
theorem d_Mod_search_98 : decode b_Mod_search 98 = .ok (.aload_n 0, 1) := by decide +kernel
theorem d_Mod_search_99 : decode b_Mod_search 99 = .ok (.getfield 87, 3) := by decide +kernel
theorem d_Mod_search_102 : decode b_Mod_search 102 = .ok (.ifCond .eq 7, 3) := by decide +kernel
theorem d_Mod_search_105 : decode b_Mod_search 105 = .ok (.iconst 2, 1) := by decide +kernel
theorem d_Mod_search_106 : decode b_Mod_search 106 = .ok (.goto 4, 3) := by decide +kernel
theorem d_Mod_search_109 : decode b_Mod_search 109 = .ok (.iconst 1, 1) := by decide +kernel
theorem d_Mod_search_110 : decode b_Mod_search 110 = .ok (.ireturn, 1) := by decide +kernel
theorem d_Mod_come_0 : decode b_Mod_come 0 = .ok (.aload_n 0, 1) := by decide +kernel
theorem d_Mod_come_1 : decode b_Mod_come 1 = .ok (.getfield 56, 3) := by decide +kernel
theorem d_Mod_come_4 : decode b_Mod_come 4 = .ok (.iload_n 1, 1) := by decide +kernel
theorem d_Mod_come_5 : decode b_Mod_come 5 = .ok (.baload, 1) := by decide +kernel
theorem d_Mod_come_6 : decode b_Mod_come 6 = .ok (.ifCond .eq 4, 3) := by decide +kernel
theorem d_Mod_come_9 : decode b_Mod_come 9 = .ok (.return_, 1) := by decide +kernel
theorem d_Mod_come_10 : decode b_Mod_come 10 = .ok (.aload_n 0, 1) := by decide +kernel
theorem d_Mod_come_11 : decode b_Mod_come 11 = .ok (.getfield 56, 3) := by decide +kernel
theorem d_Mod_come_14 : decode b_Mod_come 14 = .ok (.iload_n 1, 1) := by decide +kernel
theorem d_Mod_come_15 : decode b_Mod_come 15 = .ok (.iconst 1, 1) := by decide +kernel
theorem d_Mod_come_16 : decode b_Mod_come 16 = .ok (.bastore, 1) := by decide +kernel
theorem d_Mod_come_17 : decode b_Mod_come 17 = .ok (.aload_n 0, 1) := by decide +kernel
theorem d_Mod_come_18 : decode b_Mod_come 18 = .ok (.getfield 44, 3) := by decide +kernel
theorem d_Mod_come_21 : decode b_Mod_come 21 = .ok (.aload_n 0, 1) := by decide +kernel
theorem d_Mod_come_22 : decode b_Mod_come 22 = .ok (.getfield 81, 3) := by decide +kernel
theorem d_Mod_come_25 : decode b_Mod_come 25 = .ok (.iload_n 1, 1) := by decide +kernel
theorem d_Mod_come_26 : decode b_Mod_come 26 = .ok (.iastore, 1) := by decide +kernel
theorem d_Mod_come_27 : decode b_Mod_come 27 = .ok (.aload_n 0, 1) := by decide +kernel
theorem d_Mod_come_28 : decode b_Mod_come 28 = .ok (.getfield 47, 3) := by decide +kernel
theorem d_Mod_come_31 : decode b_Mod_come 31 = .ok (.aload_n 0, 1) := by decide +kernel
theorem d_Mod_come_32 : decode b_Mod_come 32 = .ok (.getfield 81, 3) := by decide +kernel
theorem d_Mod_come_35 : decode b_Mod_come 35 = .ok (.iload_n 2, 1) := by decide +kernel
theorem d_Mod_come_36 : decode b_Mod_come 36 = .ok (.iastore, 1) := by decide +kernel
theorem d_Mod_come_37 : decode b_Mod_come 37 = .ok (.aload_n 0, 1) := by decide +kernel
theorem d_Mod_come_38 : decode b_Mod_come 38 = .ok (.getfield 50, 3) := by decide +kernel
theorem d_Mod_come_41 : decode b_Mod_come 41 = .ok (.aload_n 0, 1) := by decide +kernel
theorem d_Mod_come_42 : decode b_Mod_come 42 = .ok (.getfield 81, 3) := by decide +kernel
theorem d_Mod_come_45 : decode b_Mod_come 45 = .ok (.iload_n 3, 1) := by decide +kernel
theorem d_Mod_come_46 : decode b_Mod_come 46 = .ok (.iastore, 1) := by decide +kernel
theorem d_Mod_come_47 : decode b_Mod_come 47 = .ok (.aload_n 0, 1) := by decide +kernel
theorem d_Mod_come_48 : decode b_Mod_come 48 = .ok (.dup, 1) := by decide +kernel
theorem d_Mod_come_49 : decode b_Mod_come 49 = .ok (.getfield 81, 3) := by decide +kernel
theorem d_Mod_come_52 : decode b_Mod_come 52 = .ok (.iconst 1, 1) := by decide +kernel
theorem d_Mod_come_53 : decode b_Mod_come 53 = .ok (.iadd, 1) := by decide +kernel
theorem d_Mod_come_54 : decode b_Mod_come 54 = .ok (.putfield 81, 3) := by decide +kernel
theorem d_Mod_come_57 : decode b_Mod_come 57 = .ok (.return_, 1) := by decide +kernel
theorem d_Mod_isFound_0 : decode b_Mod_isFound 0 = .ok (.aload_n 0, 1) := by decide +kernel
theorem d_Mod_isFound_1 : decode b_Mod_isFound 1 = .ok (.getfield 53, 3) := by decide +kernel
theorem d_Mod_isFound_4 : decode b_Mod_isFound 4 = .ok (.aload_n 0, 1) := by decide +kernel
theorem d_Mod_isFound_5 : decode b_Mod_isFound 5 = .ok (.getfield 84, 3) := by decide +kernel
theorem d_Mod_isFound_8 : decode b_Mod_isFound 8 = .ok (.iaload, 1) := by decide +kernel
theorem d_Mod_isFound_9 : decode b_Mod_isFound 9 = .ok (.istore_n 1, 1) := by decide +kernel
theorem d_Mod_isFound_10 : decode b_Mod_isFound 10 = .ok (.iload_n 1, 1) := by decide +kernel
theorem d_Mod_isFound_11 : decode b_Mod_isFound 11 = .ok (.aload_n 0, 1) := by decide +kernel
theorem d_Mod_isFound_12 : decode b_Mod_isFound 12 = .ok (.getfield 81, 3) := by decide +kernel
theorem d_Mod_isFound_15 : decode b_Mod_isFound 15 = .ok (.if_icmp .ge 111, 3) := by decide +kernel
theorem d_Mod_isFound_18 : decode b_Mod_isFound 18 = .ok (.iconst 0, 1) := by decide +kernel
theorem d_Mod_isFound_19 : decode b_Mod_isFound 19 = .ok (.istore_n 2, 1) := by decide +kernel
theorem d_Mod_isFound_20 : decode b_Mod_isFound 20 = .ok (.iload_n 2, 1) := by decide +kernel
theorem d_Mod_isFound_21 : decode b_Mod_isFound 21 = .ok (.iconst 1, 1) := by decide +kernel
theorem d_Mod_isFound_22 : decode b_Mod_isFound 22 = .ok (.aload_n 0, 1) := by decide +kernel
theorem d_Mod_isFound_23 : decode b_Mod_isFound 23 = .ok (.getfield 69, 3) := by decide +kernel
theorem d_Mod_isFound_26 : decode b_Mod_isFound 26 = .ok (.ishl, 1) := by decide +kernel
theorem d_Mod_isFound_27 : decode b_Mod_isFound 27 = .ok (.if_icmp .ge 93, 3) := by decide +kernel
theorem d_Mod_isFound_30 : decode b_Mod_isFound 30 = .ok (.aload_n 0, 1) := by decide +kernel
theorem d_Mod_isFound_31 : decode b_Mod_isFound 31 = .ok (.aload_n 0, 1) := by decide +kernel
theorem d_Mod_isFound_32 : decode b_Mod_isFound 32 = .ok (.getfield 44, 3) := by decide +kernel
theorem d_Mod_isFound_35 : decode b_Mod_isFound 35 = .ok (.iload_n 1, 1) := by decide +kernel
theorem d_Mod_isFound_36 : decode b_Mod_isFound 36 = .ok (.iaload, 1) := by decide +kernel
theorem d_Mod_isFound_37 : decode b_Mod_isFound 37 = .ok (.iload_n 2, 1) := by decide +kernel
theorem d_Mod_isFound_38 : decode b_Mod_isFound 38 = .ok (.invokevirtual 128, 3) := by decide +kernel
theorem d_Mod_isFound_41 : decode b_Mod_isFound 41 = .ok (.aload_n 0, 1) := by decide +kernel
theorem d_Mod_isFound_42 : decode b_Mod_isFound 42 = .ok (.invokevirtual 132, 3) := by decide +kernel
theorem d_Mod_isFound_45 : decode b_Mod_isFound 45 = .ok (.ifCond .ge 6, 3) := by decide +kernel
theorem d_Mod_isFound_48 : decode b_Mod_isFound 48 = .ok (.goto 66, 3) := by decide +kernel
theorem d_Mod_isFound_51 : decode b_Mod_isFound 51 = .ok (.aload_n 0, 1) := by decide +kernel
theorem d_Mod_isFound_52 : decode b_Mod_isFound 52 = .ok (.aload_n 0, 1) := by decide +kernel
theorem d_Mod_isFound_53 : decode b_Mod_isFound 53 = .ok (.getfield 84, 3) := by decide +kernel
theorem d_Mod_isFound_56 : decode b_Mod_isFound 56 = .ok (.iconst 1, 1) := by decide +kernel
theorem d_Mod_isFound_57 : decode b_Mod_isFound 57 = .ok (.iadd, 1) := by decide +kernel
theorem d_Mod_isFound_58 : decode b_Mod_isFound 58 = .ok (.putfield 91, 3) := by decide +kernel
theorem d_Mod_isFound_61 : decode b_Mod_isFound 61 = .ok (.aload_n 0, 1) := by decide +kernel
theorem d_Mod_isFound_62 : decode b_Mod_isFound 62 = .ok (.getfield 59, 3) := by decide +kernel
theorem d_Mod_isFound_65 : decode b_Mod_isFound 65 = .ok (.aload_n 0, 1) := by decide +kernel
theorem d_Mod_isFound_66 : decode b_Mod_isFound 66 = .ok (.getfield 84, 3) := by decide +kernel
theorem d_Mod_isFound_69 : decode b_Mod_isFound 69 = .ok (.iload_n 2, 1) := by decide +kernel
theorem d_Mod_isFound_70 : decode b_Mod_isFound 70 = .ok (.iastore, 1) := by decide +kernel
theorem d_Mod_isFound_71 : decode b_Mod_isFound 71 = .ok (.iload_n 1, 1) := by decide +kernel
theorem d_Mod_isFound_72 : decode b_Mod_isFound 72 = .ok (.istore_n 3, 1) := by decide +kernel
theorem d_Mod_isFound_73 : decode b_Mod_isFound 73 = .ok (.aload_n 0, 1) := by decide +kernel
theorem d_Mod_isFound_74 : decode b_Mod_isFound 74 = .ok (.getfield 84, 3) := by decide +kernel
theorem d_Mod_isFound_77 : decode b_Mod_isFound 77 = .ok (.iconst 1, 1) := by decide +kernel
theorem d_Mod_isFound_78 : decode b_Mod_isFound 78 = .ok (.isub, 1) := by decide +kernel
theorem d_Mod_isFound_79 : decode b_Mod_isFound 79 = .ok (.istore 4, 2) := by decide +kernel
theorem d_Mod_isFound_81 : decode b_Mod_isFound 81 = .ok (.iload 4, 2) := by decide +kernel
theorem d_Mod_isFound_83 : decode b_Mod_isFound 83 = .ok (.ifCond .lt 29, 3) := by decide +kernel
theorem d_Mod_isFound_86 : decode b_Mod_isFound 86 = .ok (.aload_n 0, 1) := by decide +kernel
theorem d_Mod_isFound_87 : decode b_Mod_isFound 87 = .ok (.getfield 59, 3) := by decide +kernel
theorem d_Mod_isFound_90 : decode b_Mod_isFound 90 = .ok (.iload 4, 2) := by decide +kernel
theorem d_Mod_isFound_92 : decode b_Mod_isFound 92 = .ok (.aload_n 0, 1) := by decide +kernel
theorem d_Mod_isFound_93 : decode b_Mod_isFound 93 = .ok (.getfield 50, 3) := by decide +kernel
theorem d_Mod_isFound_96 : decode b_Mod_isFound 96 = .ok (.iload_n 3, 1) := by decide +kernel
theorem d_Mod_isFound_97 : decode b_Mod_isFound 97 = .ok (.iaload, 1) := by decide +kernel
theorem d_Mod_isFound_98 : decode b_Mod_isFound 98 = .ok (.iastore, 1) := by decide +kernel
theorem d_Mod_isFound_99 : decode b_Mod_isFound 99 = .ok (.aload_n 0, 1) := by decide +kernel
theorem d_Mod_isFound_100 : decode b_Mod_isFound 100 = .ok (.getfield 47, 3) := by decide +kernel
theorem d_Mod_isFound_103 : decode b_Mod_isFound 103 = .ok (.iload_n 3, 1) := by decide +kernel
theorem d_Mod_isFound_104 : decode b_Mod_isFound 104 = .ok (.iaload, 1) := by decide +kernel
theorem d_Mod_isFound_105 : decode b_Mod_isFound 105 = .ok (.istore_n 3, 1) := by decide +kernel
theorem d_Mod_isFound_106 : decode b_Mod_isFound 106 = .ok (.iinc 4 (-1), 3) := by decide +kernel
theorem d_Mod_isFound_109 : decode b_Mod_isFound 109 = .ok (.goto (-28), 3) := by decide +kernel
theorem d_Mod_isFound_112 : decode b_Mod_isFound 112 = .ok (.iconst 1, 1) := by decide +kernel
theorem d_Mod_isFound_113 : decode b_Mod_isFound 113 = .ok (.ireturn, 1) := by decide +kernel
theorem d_Mod_isFound_114 : decode b_Mod_isFound 114 = .ok (.iinc 2 1, 3) := by decide +kernel
theorem d_Mod_isFound_117 : decode b_Mod_isFound 117 = .ok (.goto (-97), 3) := by decide +kernel
theorem d_Mod_isFound_120 : decode b_Mod_isFound 120 = .ok (.iinc 1 1, 3) := by decide +kernel
theorem d_Mod_isFound_123 : decode b_Mod_isFound 123 = .ok (.goto (-113), 3) := by decide +kernel
theorem d_Mod_isFound_126 : decode b_Mod_isFound 126 = .ok (.iconst 0, 1) := by decide +kernel
theorem d_Mod_isFound_127 : decode b_Mod_isFound 127 = .ok (.ireturn, 1) := by decide +kernel
theorem d_Mod_work_0 : decode b_Mod_work 0 = .ok (.iconst 0, 1) := by decide +kernel
theorem d_Mod_work_1 : decode b_Mod_work 1 = .ok (.istore_n 3, 1) := by decide +kernel
theorem d_Mod_work_2 : decode b_Mod_work 2 = .ok (.iload_n 3, 1) := by decide +kernel
theorem d_Mod_work_3 : decode b_Mod_work 3 = .ok (.aload_n 0, 1) := by decide +kernel
theorem d_Mod_work_4 : decode b_Mod_work 4 = .ok (.getfield 72, 3) := by decide +kernel
theorem d_Mod_work_7 : decode b_Mod_work 7 = .ok (.if_icmp .ge 80, 3) := by decide +kernel
theorem d_Mod_work_10 : decode b_Mod_work 10 = .ok (.aload_n 0, 1) := by decide +kernel
theorem d_Mod_work_11 : decode b_Mod_work 11 = .ok (.getfield 41, 3) := by decide +kernel
theorem d_Mod_work_14 : decode b_Mod_work 14 = .ok (.iload_n 3, 1) := by decide +kernel
theorem d_Mod_work_15 : decode b_Mod_work 15 = .ok (.aload_n 0, 1) := by decide +kernel
theorem d_Mod_work_16 : decode b_Mod_work 16 = .ok (.getfield 13, 3) := by decide +kernel
theorem d_Mod_work_19 : decode b_Mod_work 19 = .ok (.iload_n 3, 1) := by decide +kernel
theorem d_Mod_work_20 : decode b_Mod_work 20 = .ok (.iaload, 1) := by decide +kernel
theorem d_Mod_work_21 : decode b_Mod_work 21 = .ok (.iconst (-1), 1) := by decide +kernel
theorem d_Mod_work_22 : decode b_Mod_work 22 = .ok (.if_icmp .ne 20, 3) := by decide +kernel
theorem d_Mod_work_25 : decode b_Mod_work 25 = .ok (.iload_n 2, 1) := by decide +kernel
theorem d_Mod_work_26 : decode b_Mod_work 26 = .ok (.iload_n 3, 1) := by decide +kernel
theorem d_Mod_work_27 : decode b_Mod_work 27 = .ok (.ishr, 1) := by decide +kernel
theorem d_Mod_work_28 : decode b_Mod_work 28 = .ok (.iconst 1, 1) := by decide +kernel
theorem d_Mod_work_29 : decode b_Mod_work 29 = .ok (.iand, 1) := by decide +kernel
theorem d_Mod_work_30 : decode b_Mod_work 30 = .ok (.iconst 1, 1) := by decide +kernel
theorem d_Mod_work_31 : decode b_Mod_work 31 = .ok (.if_icmp .ne 7, 3) := by decide +kernel
theorem d_Mod_work_34 : decode b_Mod_work 34 = .ok (.iconst 1, 1) := by decide +kernel
theorem d_Mod_work_35 : decode b_Mod_work 35 = .ok (.goto 45, 3) := by decide +kernel
theorem d_Mod_work_38 : decode b_Mod_work 38 = .ok (.iconst 0, 1) := by decide +kernel
theorem d_Mod_work_39 : decode b_Mod_work 39 = .ok (.goto 41, 3) := by decide +kernel
theorem d_Mod_work_42 : decode b_Mod_work 42 = .ok (.aload_n 0, 1) := by decide +kernel
theorem d_Mod_work_43 : decode b_Mod_work 43 = .ok (.getfield 13, 3) := by decide +kernel
theorem d_Mod_work_46 : decode b_Mod_work 46 = .ok (.iload_n 3, 1) := by decide +kernel
theorem d_Mod_work_47 : decode b_Mod_work 47 = .ok (.iaload, 1) := by decide +kernel
theorem d_Mod_work_48 : decode b_Mod_work 48 = .ok (.bipush (-2), 2) := by decide +kernel
theorem d_Mod_work_50 : decode b_Mod_work 50 = .ok (.if_icmp .ne 25, 3) := by decide +kernel
theorem d_Mod_work_53 : decode b_Mod_work 53 = .ok (.iload_n 1, 1) := by decide +kernel
theorem d_Mod_work_54 : decode b_Mod_work 54 = .ok (.aload_n 0, 1) := by decide +kernel
theorem d_Mod_work_55 : decode b_Mod_work 55 = .ok (.getfield 22, 3) := by decide +kernel
theorem d_Mod_work_58 : decode b_Mod_work 58 = .ok (.iload_n 3, 1) := by decide +kernel
theorem d_Mod_work_59 : decode b_Mod_work 59 = .ok (.iaload, 1) := by decide +kernel
theorem d_Mod_work_60 : decode b_Mod_work 60 = .ok (.ishr, 1) := by decide +kernel
theorem d_Mod_work_61 : decode b_Mod_work 61 = .ok (.iconst 1, 1) := by decide +kernel
theorem d_Mod_work_62 : decode b_Mod_work 62 = .ok (.iand, 1) := by decide +kernel
theorem d_Mod_work_63 : decode b_Mod_work 63 = .ok (.iconst 1, 1) := by decide +kernel
theorem d_Mod_work_64 : decode b_Mod_work 64 = .ok (.if_icmp .ne 7, 3) := by decide +kernel
theorem d_Mod_work_67 : decode b_Mod_work 67 = .ok (.iconst 1, 1) := by decide +kernel
theorem d_Mod_work_68 : decode b_Mod_work 68 = .ok (.goto 12, 3) := by decide +kernel
theorem d_Mod_work_71 : decode b_Mod_work 71 = .ok (.iconst 0, 1) := by decide +kernel
theorem d_Mod_work_72 : decode b_Mod_work 72 = .ok (.goto 8, 3) := by decide +kernel
theorem d_Mod_work_75 : decode b_Mod_work 75 = .ok (.aload_n 0, 1) := by decide +kernel
theorem d_Mod_work_76 : decode b_Mod_work 76 = .ok (.iload_n 3, 1) := by decide +kernel
theorem d_Mod_work_77 : decode b_Mod_work 77 = .ok (.invokevirtual 124, 3) := by decide +kernel
theorem d_Mod_work_80 : decode b_Mod_work 80 = .ok (.bastore, 1) := by decide +kernel
theorem d_Mod_work_81 : decode b_Mod_work 81 = .ok (.iinc 3 1, 3) := by decide +kernel
theorem d_Mod_work_84 : decode b_Mod_work 84 = .ok (.goto (-82), 3) := by decide +kernel
theorem d_Mod_work_87 : decode b_Mod_work 87 = .ok (.return_, 1) := by decide +kernel
theorem d_Mod_made_0 : decode b_Mod_made 0 = .ok (.aload_n 0, 1) := by decide +kernel
theorem d_Mod_made_1 : decode b_Mod_made 1 = .ok (.getfield 41, 3) := by decide +kernel
theorem d_Mod_made_4 : decode b_Mod_made 4 = .ok (.aload_n 0, 1) := by decide +kernel
theorem d_Mod_made_5 : decode b_Mod_made 5 = .ok (.getfield 16, 3) := by decide +kernel
theorem d_Mod_made_8 : decode b_Mod_made 8 = .ok (.iload_n 1, 1) := by decide +kernel
theorem d_Mod_made_9 : decode b_Mod_made 9 = .ok (.iaload, 1) := by decide +kernel
theorem d_Mod_made_10 : decode b_Mod_made 10 = .ok (.baload, 1) := by decide +kernel
theorem d_Mod_made_11 : decode b_Mod_made 11 = .ok (.istore_n 2, 1) := by decide +kernel
theorem d_Mod_made_12 : decode b_Mod_made 12 = .ok (.aload_n 0, 1) := by decide +kernel
theorem d_Mod_made_13 : decode b_Mod_made 13 = .ok (.getfield 41, 3) := by decide +kernel
theorem d_Mod_made_16 : decode b_Mod_made 16 = .ok (.aload_n 0, 1) := by decide +kernel
theorem d_Mod_made_17 : decode b_Mod_made 17 = .ok (.getfield 19, 3) := by decide +kernel
theorem d_Mod_made_20 : decode b_Mod_made 20 = .ok (.iload_n 1, 1) := by decide +kernel
theorem d_Mod_made_21 : decode b_Mod_made 21 = .ok (.iaload, 1) := by decide +kernel
theorem d_Mod_made_22 : decode b_Mod_made 22 = .ok (.baload, 1) := by decide +kernel
theorem d_Mod_made_23 : decode b_Mod_made 23 = .ok (.istore_n 3, 1) := by decide +kernel
theorem d_Mod_made_24 : decode b_Mod_made 24 = .ok (.aload_n 0, 1) := by decide +kernel
theorem d_Mod_made_25 : decode b_Mod_made 25 = .ok (.getfield 13, 3) := by decide +kernel
theorem d_Mod_made_28 : decode b_Mod_made 28 = .ok (.iload_n 1, 1) := by decide +kernel
theorem d_Mod_made_29 : decode b_Mod_made 29 = .ok (.iaload, 1) := by decide +kernel
theorem d_Mod_made_30 : decode b_Mod_made 30 = .ok (.tableswitch 79 0 3 #[30, 44, 58, 69], 30) := by decide +kernel
theorem d_Mod_made_60 : decode b_Mod_made 60 = .ok (.iload_n 2, 1) := by decide +kernel
theorem d_Mod_made_61 : decode b_Mod_made 61 = .ok (.ifCond .eq 11, 3) := by decide +kernel
theorem d_Mod_made_64 : decode b_Mod_made 64 = .ok (.iload_n 3, 1) := by decide +kernel
theorem d_Mod_made_65 : decode b_Mod_made 65 = .ok (.ifCond .eq 7, 3) := by decide +kernel
theorem d_Mod_made_68 : decode b_Mod_made 68 = .ok (.iconst 1, 1) := by decide +kernel
theorem d_Mod_made_69 : decode b_Mod_made 69 = .ok (.goto 4, 3) := by decide +kernel
theorem d_Mod_made_72 : decode b_Mod_made 72 = .ok (.iconst 0, 1) := by decide +kernel
theorem d_Mod_made_73 : decode b_Mod_made 73 = .ok (.ireturn, 1) := by decide +kernel
theorem d_Mod_made_74 : decode b_Mod_made 74 = .ok (.iload_n 2, 1) := by decide +kernel
theorem d_Mod_made_75 : decode b_Mod_made 75 = .ok (.ifCond .ne 7, 3) := by decide +kernel
theorem d_Mod_made_78 : decode b_Mod_made 78 = .ok (.iload_n 3, 1) := by decide +kernel
theorem d_Mod_made_79 : decode b_Mod_made 79 = .ok (.ifCond .eq 7, 3) := by decide +kernel
theorem d_Mod_made_82 : decode b_Mod_made 82 = .ok (.iconst 1, 1) := by decide +kernel
theorem d_Mod_made_83 : decode b_Mod_made 83 = .ok (.goto 4, 3) := by decide +kernel
theorem d_Mod_made_86 : decode b_Mod_made 86 = .ok (.iconst 0, 1) := by decide +kernel
theorem d_Mod_made_87 : decode b_Mod_made 87 = .ok (.ireturn, 1) := by decide +kernel
theorem d_Mod_made_88 : decode b_Mod_made 88 = .ok (.iload_n 2, 1) := by decide +kernel
theorem d_Mod_made_89 : decode b_Mod_made 89 = .ok (.iload_n 3, 1) := by decide +kernel
theorem d_Mod_made_90 : decode b_Mod_made 90 = .ok (.if_icmp .eq 7, 3) := by decide +kernel
theorem d_Mod_made_93 : decode b_Mod_made 93 = .ok (.iconst 1, 1) := by decide +kernel
theorem d_Mod_made_94 : decode b_Mod_made 94 = .ok (.goto 4, 3) := by decide +kernel
theorem d_Mod_made_97 : decode b_Mod_made 97 = .ok (.iconst 0, 1) := by decide +kernel
theorem d_Mod_made_98 : decode b_Mod_made 98 = .ok (.ireturn, 1) := by decide +kernel
theorem d_Mod_made_99 : decode b_Mod_made 99 = .ok (.iload_n 2, 1) := by decide +kernel
theorem d_Mod_made_100 : decode b_Mod_made 100 = .ok (.ifCond .ne 7, 3) := by decide +kernel
theorem d_Mod_made_103 : decode b_Mod_made 103 = .ok (.iconst 1, 1) := by decide +kernel
theorem d_Mod_made_104 : decode b_Mod_made 104 = .ok (.goto 4, 3) := by decide +kernel
theorem d_Mod_made_107 : decode b_Mod_made 107 = .ok (.iconst 0, 1) := by decide +kernel
theorem d_Mod_made_108 : decode b_Mod_made 108 = .ok (.ireturn, 1) := by decide +kernel
theorem d_Mod_made_109 : decode b_Mod_made 109 = .ok (.aload_n 0, 1) := by decide +kernel
theorem d_Mod_made_110 : decode b_Mod_made 110 = .ok (.getfield 13, 3) := by decide +kernel
theorem d_Mod_made_113 : decode b_Mod_made 113 = .ok (.iload_n 1, 1) := by decide +kernel
theorem d_Mod_made_114 : decode b_Mod_made 114 = .ok (.iaload, 1) := by decide +kernel
theorem d_Mod_made_115 : decode b_Mod_made 115 = .ok (.iconst 5, 1) := by decide +kernel
theorem d_Mod_made_116 : decode b_Mod_made 116 = .ok (.if_icmp .ne 7, 3) := by decide +kernel
theorem d_Mod_made_119 : decode b_Mod_made 119 = .ok (.iconst 1, 1) := by decide +kernel
theorem d_Mod_made_120 : decode b_Mod_made 120 = .ok (.goto 4, 3) := by decide +kernel
theorem d_Mod_made_123 : decode b_Mod_made 123 = .ok (.iconst 0, 1) := by decide +kernel
theorem d_Mod_made_124 : decode b_Mod_made 124 = .ok (.ireturn, 1) := by decide +kernel
theorem d_Mod_difference_0 : decode b_Mod_difference 0 = .ok (.iconst 0, 1) := by decide +kernel
theorem d_Mod_difference_1 : decode b_Mod_difference 1 = .ok (.istore_n 1, 1) := by decide +kernel
theorem d_Mod_difference_2 : decode b_Mod_difference 2 = .ok (.iload_n 1, 1) := by decide +kernel
theorem d_Mod_difference_3 : decode b_Mod_difference 3 = .ok (.aload_n 0, 1) := by decide +kernel
theorem d_Mod_difference_4 : decode b_Mod_difference 4 = .ok (.getfield 121, 3) := by decide +kernel
theorem d_Mod_difference_7 : decode b_Mod_difference 7 = .ok (.if_icmp .ge 36, 3) := by decide +kernel
theorem d_Mod_difference_10 : decode b_Mod_difference 10 = .ok (.aload_n 0, 1) := by decide +kernel
theorem d_Mod_difference_11 : decode b_Mod_difference 11 = .ok (.getfield 41, 3) := by decide +kernel
theorem d_Mod_difference_14 : decode b_Mod_difference 14 = .ok (.aload_n 0, 1) := by decide +kernel
theorem d_Mod_difference_15 : decode b_Mod_difference 15 = .ok (.getfield 35, 3) := by decide +kernel
theorem d_Mod_difference_18 : decode b_Mod_difference 18 = .ok (.iload_n 1, 1) := by decide +kernel
theorem d_Mod_difference_19 : decode b_Mod_difference 19 = .ok (.iaload, 1) := by decide +kernel
theorem d_Mod_difference_20 : decode b_Mod_difference 20 = .ok (.baload, 1) := by decide +kernel
theorem d_Mod_difference_21 : decode b_Mod_difference 21 = .ok (.aload_n 0, 1) := by decide +kernel
theorem d_Mod_difference_22 : decode b_Mod_difference 22 = .ok (.getfield 41, 3) := by decide +kernel
theorem d_Mod_difference_25 : decode b_Mod_difference 25 = .ok (.aload_n 0, 1) := by decide +kernel
theorem d_Mod_difference_26 : decode b_Mod_difference 26 = .ok (.getfield 38, 3) := by decide +kernel
theorem d_Mod_difference_29 : decode b_Mod_difference 29 = .ok (.iload_n 1, 1) := by decide +kernel
theorem d_Mod_difference_30 : decode b_Mod_difference 30 = .ok (.iaload, 1) := by decide +kernel
theorem d_Mod_difference_31 : decode b_Mod_difference 31 = .ok (.baload, 1) := by decide +kernel
theorem d_Mod_difference_32 : decode b_Mod_difference 32 = .ok (.if_icmp .eq 5, 3) := by decide +kernel
theorem d_Mod_difference_35 : decode b_Mod_difference 35 = .ok (.iload_n 1, 1) := by decide +kernel
theorem d_Mod_difference_36 : decode b_Mod_difference 36 = .ok (.ireturn, 1) := by decide +kernel
theorem d_Mod_difference_37 : decode b_Mod_difference 37 = .ok (.iinc 1 1, 3) := by decide +kernel
theorem d_Mod_difference_40 : decode b_Mod_difference 40 = .ok (.goto (-38), 3) := by decide +kernel
theorem d_Mod_difference_43 : decode b_Mod_difference 43 = .ok (.iconst (-1), 1) := by decide +kernel
theorem d_Mod_difference_44 : decode b_Mod_difference 44 = .ok (.ireturn, 1) := by decide +kernel
theorem d_Mod_goThrough_0 : decode b_Mod_goThrough 0 = .ok (.aload_n 0, 1) := by decide +kernel
theorem d_Mod_goThrough_1 : decode b_Mod_goThrough 1 = .ok (.getfield 81, 3) := by decide +kernel
theorem d_Mod_goThrough_4 : decode b_Mod_goThrough 4 = .ok (.istore_n 1, 1) := by decide +kernel
theorem d_Mod_goThrough_5 : decode b_Mod_goThrough 5 = .ok (.aload_n 0, 1) := by decide +kernel
theorem d_Mod_goThrough_6 : decode b_Mod_goThrough 6 = .ok (.getfield 53, 3) := by decide +kernel
theorem d_Mod_goThrough_9 : decode b_Mod_goThrough 9 = .ok (.aload_n 0, 1) := by decide +kernel
theorem d_Mod_goThrough_10 : decode b_Mod_goThrough 10 = .ok (.getfield 84, 3) := by decide +kernel
theorem d_Mod_goThrough_13 : decode b_Mod_goThrough 13 = .ok (.iaload, 1) := by decide +kernel
theorem d_Mod_goThrough_14 : decode b_Mod_goThrough 14 = .ok (.istore_n 2, 1) := by decide +kernel
theorem d_Mod_goThrough_15 : decode b_Mod_goThrough 15 = .ok (.iload_n 2, 1) := by decide +kernel
theorem d_Mod_goThrough_16 : decode b_Mod_goThrough 16 = .ok (.iload_n 1, 1) := by decide +kernel
theorem d_Mod_goThrough_17 : decode b_Mod_goThrough 17 = .ok (.if_icmp .ge 48, 3) := by decide +kernel
theorem d_Mod_goThrough_20 : decode b_Mod_goThrough 20 = .ok (.iconst 0, 1) := by decide +kernel
theorem d_Mod_goThrough_21 : decode b_Mod_goThrough 21 = .ok (.istore_n 3, 1) := by decide +kernel
theorem d_Mod_goThrough_22 : decode b_Mod_goThrough 22 = .ok (.iload_n 3, 1) := by decide +kernel
theorem d_Mod_goThrough_23 : decode b_Mod_goThrough 23 = .ok (.iconst 1, 1) := by decide +kernel
theorem d_Mod_goThrough_24 : decode b_Mod_goThrough 24 = .ok (.aload_n 0, 1) := by decide +kernel
theorem d_Mod_goThrough_25 : decode b_Mod_goThrough 25 = .ok (.getfield 69, 3) := by decide +kernel
theorem d_Mod_goThrough_28 : decode b_Mod_goThrough 28 = .ok (.ishl, 1) := by decide +kernel
theorem d_Mod_goThrough_29 : decode b_Mod_goThrough 29 = .ok (.if_icmp .ge 30, 3) := by decide +kernel
theorem d_Mod_goThrough_32 : decode b_Mod_goThrough 32 = .ok (.aload_n 0, 1) := by decide +kernel
theorem d_Mod_goThrough_33 : decode b_Mod_goThrough 33 = .ok (.aload_n 0, 1) := by decide +kernel
theorem d_Mod_goThrough_34 : decode b_Mod_goThrough 34 = .ok (.getfield 44, 3) := by decide +kernel
theorem d_Mod_goThrough_37 : decode b_Mod_goThrough 37 = .ok (.iload_n 2, 1) := by decide +kernel
theorem d_Mod_goThrough_38 : decode b_Mod_goThrough 38 = .ok (.iaload, 1) := by decide +kernel
theorem d_Mod_goThrough_39 : decode b_Mod_goThrough 39 = .ok (.iload_n 3, 1) := by decide +kernel
theorem d_Mod_goThrough_40 : decode b_Mod_goThrough 40 = .ok (.invokevirtual 128, 3) := by decide +kernel
theorem d_Mod_goThrough_43 : decode b_Mod_goThrough 43 = .ok (.aload_n 0, 1) := by decide +kernel
theorem d_Mod_goThrough_44 : decode b_Mod_goThrough 44 = .ok (.aload_n 0, 1) := by decide +kernel
theorem d_Mod_goThrough_45 : decode b_Mod_goThrough 45 = .ok (.invokevirtual 135, 3) := by decide +kernel
theorem d_Mod_goThrough_48 : decode b_Mod_goThrough 48 = .ok (.iload_n 2, 1) := by decide +kernel
theorem d_Mod_goThrough_49 : decode b_Mod_goThrough 49 = .ok (.iload_n 3, 1) := by decide +kernel
theorem d_Mod_goThrough_50 : decode b_Mod_goThrough 50 = .ok (.invokevirtual 138, 3) := by decide +kernel
theorem d_Mod_goThrough_53 : decode b_Mod_goThrough 53 = .ok (.iinc 3 1, 3) := by decide +kernel
theorem d_Mod_goThrough_56 : decode b_Mod_goThrough 56 = .ok (.goto (-34), 3) := by decide +kernel
theorem d_Mod_goThrough_59 : decode b_Mod_goThrough 59 = .ok (.iinc 2 1, 3) := by decide +kernel
theorem d_Mod_goThrough_62 : decode b_Mod_goThrough 62 = .ok (.goto (-47), 3) := by decide +kernel
theorem d_Mod_goThrough_65 : decode b_Mod_goThrough 65 = .ok (.aload_n 0, 1) := by decide +kernel
theorem d_Mod_goThrough_66 : decode b_Mod_goThrough 66 = .ok (.dup, 1) := by decide +kernel
theorem d_Mod_goThrough_67 : decode b_Mod_goThrough 67 = .ok (.getfield 84, 3) := by decide +kernel
theorem d_Mod_goThrough_70 : decode b_Mod_goThrough 70 = .ok (.iconst 1, 1) := by decide +kernel
theorem d_Mod_goThrough_71 : decode b_Mod_goThrough 71 = .ok (.iadd, 1) := by decide +kernel
theorem d_Mod_goThrough_72 : decode b_Mod_goThrough 72 = .ok (.putfield 84, 3) := by decide +kernel
theorem d_Mod_goThrough_75 : decode b_Mod_goThrough 75 = .ok (.aload_n 0, 1) := by decide +kernel
theorem d_Mod_goThrough_76 : decode b_Mod_goThrough 76 = .ok (.getfield 53, 3) := by decide +kernel
theorem d_Mod_goThrough_79 : decode b_Mod_goThrough 79 = .ok (.aload_n 0, 1) := by decide +kernel
theorem d_Mod_goThrough_80 : decode b_Mod_goThrough 80 = .ok (.getfield 84, 3) := by decide +kernel
theorem d_Mod_goThrough_83 : decode b_Mod_goThrough 83 = .ok (.iload_n 1, 1) := by decide +kernel
theorem d_Mod_goThrough_84 : decode b_Mod_goThrough 84 = .ok (.iastore, 1) := by decide +kernel
theorem d_Mod_goThrough_85 : decode b_Mod_goThrough 85 = .ok (.aload_n 0, 1) := by decide +kernel
theorem d_Mod_goThrough_86 : decode b_Mod_goThrough 86 = .ok (.aload_n 0, 1) := by decide +kernel
theorem d_Mod_goThrough_87 : decode b_Mod_goThrough 87 = .ok (.getfield 81, 3) := by decide +kernel
theorem d_Mod_goThrough_90 : decode b_Mod_goThrough 90 = .ok (.iload_n 1, 1) := by decide +kernel
theorem d_Mod_goThrough_91 : decode b_Mod_goThrough 91 = .ok (.if_icmp .ne 7, 3) := by decide +kernel
theorem d_Mod_goThrough_94 : decode b_Mod_goThrough 94 = .ok (.iconst 1, 1) := by decide +kernel
theorem d_Mod_goThrough_95 : decode b_Mod_goThrough 95 = .ok (.goto 4, 3) := by decide +kernel
theorem d_Mod_goThrough_98 : decode b_Mod_goThrough 98 = .ok (.iconst 0, 1) := by decide +kernel
theorem d_Mod_goThrough_99 : decode b_Mod_goThrough 99 = .ok (.putfield 87, 3) := by decide +kernel
theorem d_Mod_goThrough_102 : decode b_Mod_goThrough 102 = .ok (.return_, 1) := by decide +kernel
theorem d_Mod_after_0 : decode b_Mod_after 0 = .ok (.iconst 0, 1) := by decide +kernel
theorem d_Mod_after_1 : decode b_Mod_after 1 = .ok (.istore_n 1, 1) := by decide +kernel
theorem d_Mod_after_2 : decode b_Mod_after 2 = .ok (.iconst 0, 1) := by decide +kernel
theorem d_Mod_after_3 : decode b_Mod_after 3 = .ok (.istore_n 2, 1) := by decide +kernel
theorem d_Mod_after_4 : decode b_Mod_after 4 = .ok (.iload_n 2, 1) := by decide +kernel
theorem d_Mod_after_5 : decode b_Mod_after 5 = .ok (.aload_n 0, 1) := by decide +kernel
theorem d_Mod_after_6 : decode b_Mod_after 6 = .ok (.getfield 97, 3) := by decide +kernel
theorem d_Mod_after_9 : decode b_Mod_after 9 = .ok (.if_icmp .ge 33, 3) := by decide +kernel
theorem d_Mod_after_12 : decode b_Mod_after 12 = .ok (.iload_n 1, 1) := by decide +kernel
theorem d_Mod_after_13 : decode b_Mod_after 13 = .ok (.aload_n 0, 1) := by decide +kernel
theorem d_Mod_after_14 : decode b_Mod_after 14 = .ok (.getfield 41, 3) := by decide +kernel
theorem d_Mod_after_17 : decode b_Mod_after 17 = .ok (.aload_n 0, 1) := by decide +kernel
theorem d_Mod_after_18 : decode b_Mod_after 18 = .ok (.getfield 28, 3) := by decide +kernel
theorem d_Mod_after_21 : decode b_Mod_after 21 = .ok (.iload_n 2, 1) := by decide +kernel
theorem d_Mod_after_22 : decode b_Mod_after 22 = .ok (.iaload, 1) := by decide +kernel
theorem d_Mod_after_23 : decode b_Mod_after 23 = .ok (.baload, 1) := by decide +kernel
theorem d_Mod_after_24 : decode b_Mod_after 24 = .ok (.ifCond .eq 9, 3) := by decide +kernel
theorem d_Mod_after_27 : decode b_Mod_after 27 = .ok (.iconst 1, 1) := by decide +kernel
theorem d_Mod_after_28 : decode b_Mod_after 28 = .ok (.iload_n 2, 1) := by decide +kernel
theorem d_Mod_after_29 : decode b_Mod_after 29 = .ok (.ishl, 1) := by decide +kernel
theorem d_Mod_after_30 : decode b_Mod_after 30 = .ok (.goto 4, 3) := by decide +kernel
theorem d_Mod_after_33 : decode b_Mod_after 33 = .ok (.iconst 0, 1) := by decide +kernel
theorem d_Mod_after_34 : decode b_Mod_after 34 = .ok (.ior, 1) := by decide +kernel
theorem d_Mod_after_35 : decode b_Mod_after 35 = .ok (.istore_n 1, 1) := by decide +kernel
theorem d_Mod_after_36 : decode b_Mod_after 36 = .ok (.iinc 2 1, 3) := by decide +kernel
theorem d_Mod_after_39 : decode b_Mod_after 39 = .ok (.goto (-35), 3) := by decide +kernel
theorem d_Mod_after_42 : decode b_Mod_after 42 = .ok (.iload_n 1, 1) := by decide +kernel
theorem d_Mod_after_43 : decode b_Mod_after 43 = .ok (.ireturn, 1) := by decide +kernel
theorem d_Mod_length_0 : decode b_Mod_length 0 = .ok (.aload_n 0, 1) := by decide +kernel
theorem d_Mod_length_1 : decode b_Mod_length 1 = .ok (.iconst 0, 1) := by decide +kernel
theorem d_Mod_length_2 : decode b_Mod_length 2 = .ok (.putfield 78, 3) := by decide +kernel
theorem d_Mod_length_5 : decode b_Mod_length 5 = .ok (.aload_n 0, 1) := by decide +kernel
theorem d_Mod_length_6 : decode b_Mod_length 6 = .ok (.getfield 91, 3) := by decide +kernel
theorem d_Mod_length_9 : decode b_Mod_length 9 = .ok (.ifCond .le 10, 3) := by decide +kernel
theorem d_Mod_length_12 : decode b_Mod_length 12 = .ok (.aload_n 0, 1) := by decide +kernel
theorem d_Mod_length_13 : decode b_Mod_length 13 = .ok (.getfield 91, 3) := by decide +kernel
theorem d_Mod_length_16 : decode b_Mod_length 16 = .ok (.goto 4, 3) := by decide +kernel
theorem d_Mod_length_19 : decode b_Mod_length 19 = .ok (.iconst (-1), 1) := by decide +kernel
theorem d_Mod_length_20 : decode b_Mod_length 20 = .ok (.ireturn, 1) := by decide +kernel
theorem d_Mod_word_0 : decode b_Mod_word 0 = .ok (.aload_n 0, 1) := by decide +kernel
theorem d_Mod_word_1 : decode b_Mod_word 1 = .ok (.iload_n 1, 1) := by decide +kernel
theorem d_Mod_word_2 : decode b_Mod_word 2 = .ok (.aload_n 0, 1) := by decide +kernel
theorem d_Mod_word_3 : decode b_Mod_word 3 = .ok (.getfield 91, 3) := by decide +kernel
theorem d_Mod_word_6 : decode b_Mod_word 6 = .ok (.invokestatic 110, 3) := by decide +kernel
theorem d_Mod_word_9 : decode b_Mod_word 9 = .ok (.ifCond .ne 7, 3) := by decide +kernel
theorem d_Mod_word_12 : decode b_Mod_word 12 = .ok (.iconst 1, 1) := by decide +kernel
theorem d_Mod_word_13 : decode b_Mod_word 13 = .ok (.goto 4, 3) := by decide +kernel
theorem d_Mod_word_16 : decode b_Mod_word 16 = .ok (.iconst 0, 1) := by decide +kernel
theorem d_Mod_word_17 : decode b_Mod_word 17 = .ok (.iconst 0, 1) := by decide +kernel
theorem d_Mod_word_18 : decode b_Mod_word 18 = .ok (.invokevirtual 114, 3) := by decide +kernel
theorem d_Mod_word_21 : decode b_Mod_word 21 = .ok (.ifCond .eq 7, 3) := by decide +kernel
theorem d_Mod_word_24 : decode b_Mod_word 24 = .ok (.iconst 0, 1) := by decide +kernel
theorem d_Mod_word_25 : decode b_Mod_word 25 = .ok (.goto 9, 3) := by decide +kernel
theorem d_Mod_word_28 : decode b_Mod_word 28 = .ok (.aload_n 0, 1) := by decide +kernel
theorem d_Mod_word_29 : decode b_Mod_word 29 = .ok (.getfield 59, 3) := by decide +kernel
theorem d_Mod_word_32 : decode b_Mod_word 32 = .ok (.iload_n 1, 1) := by decide +kernel
theorem d_Mod_word_33 : decode b_Mod_word 33 = .ok (.iaload, 1) := by decide +kernel
theorem d_Mod_word_34 : decode b_Mod_word 34 = .ok (.ireturn, 1) := by decide +kernel
theorem d_Mod_clear_0 : decode b_Mod_clear 0 = .ok (.aload_n 0, 1) := by decide +kernel
theorem d_Mod_clear_1 : decode b_Mod_clear 1 = .ok (.iconst 0, 1) := by decide +kernel
theorem d_Mod_clear_2 : decode b_Mod_clear 2 = .ok (.putfield 78, 3) := by decide +kernel
theorem d_Mod_clear_5 : decode b_Mod_clear 5 = .ok (.aload_n 0, 1) := by decide +kernel
theorem d_Mod_clear_6 : decode b_Mod_clear 6 = .ok (.getfield 84, 3) := by decide +kernel
theorem d_Mod_clear_9 : decode b_Mod_clear 9 = .ok (.ireturn, 1) := by decide +kernel
theorem d_Mod_seen_0 : decode b_Mod_seen 0 = .ok (.aload_n 0, 1) := by decide +kernel
theorem d_Mod_seen_1 : decode b_Mod_seen 1 = .ok (.iconst 0, 1) := by decide +kernel
theorem d_Mod_seen_2 : decode b_Mod_seen 2 = .ok (.putfield 78, 3) := by decide +kernel
theorem d_Mod_seen_5 : decode b_Mod_seen 5 = .ok (.aload_n 0, 1) := by decide +kernel
theorem d_Mod_seen_6 : decode b_Mod_seen 6 = .ok (.getfield 81, 3) := by decide +kernel
theorem d_Mod_seen_9 : decode b_Mod_seen 9 = .ok (.ireturn, 1) := by decide +kernel
theorem d_Mod_level_0 : decode b_Mod_level 0 = .ok (.aload_n 0, 1) := by decide +kernel
theorem d_Mod_level_1 : decode b_Mod_level 1 = .ok (.iload_n 1, 1) := by decide +kernel
theorem d_Mod_level_2 : decode b_Mod_level 2 = .ok (.ifCond .lt 11, 3) := by decide +kernel
theorem d_Mod_level_5 : decode b_Mod_level 5 = .ok (.iload_n 1, 1) := by decide +kernel
theorem d_Mod_level_6 : decode b_Mod_level 6 = .ok (.aload_n 0, 1) := by decide +kernel
theorem d_Mod_level_7 : decode b_Mod_level 7 = .ok (.getfield 84, 3) := by decide +kernel
theorem d_Mod_level_10 : decode b_Mod_level 10 = .ok (.if_icmp .le 7, 3) := by decide +kernel
theorem d_Mod_level_13 : decode b_Mod_level 13 = .ok (.iconst 1, 1) := by decide +kernel
theorem d_Mod_level_14 : decode b_Mod_level 14 = .ok (.goto 4, 3) := by decide +kernel
theorem d_Mod_level_17 : decode b_Mod_level 17 = .ok (.iconst 0, 1) := by decide +kernel
theorem d_Mod_level_18 : decode b_Mod_level 18 = .ok (.iconst 0, 1) := by decide +kernel
theorem d_Mod_level_19 : decode b_Mod_level 19 = .ok (.invokevirtual 114, 3) := by decide +kernel
theorem d_Mod_level_22 : decode b_Mod_level 22 = .ok (.ifCond .eq 5, 3) := by decide +kernel
theorem d_Mod_level_25 : decode b_Mod_level 25 = .ok (.iconst 0, 1) := by decide +kernel
theorem d_Mod_level_26 : decode b_Mod_level 26 = .ok (.ireturn, 1) := by decide +kernel
theorem d_Mod_level_27 : decode b_Mod_level 27 = .ok (.aload_n 0, 1) := by decide +kernel
theorem d_Mod_level_28 : decode b_Mod_level 28 = .ok (.getfield 81, 3) := by decide +kernel
theorem d_Mod_level_31 : decode b_Mod_level 31 = .ok (.ifCond .ne 7, 3) := by decide +kernel
theorem d_Mod_level_34 : decode b_Mod_level 34 = .ok (.iconst 0, 1) := by decide +kernel
theorem d_Mod_level_35 : decode b_Mod_level 35 = .ok (.goto 33, 3) := by decide +kernel
theorem d_Mod_level_38 : decode b_Mod_level 38 = .ok (.iload_n 1, 1) := by decide +kernel
theorem d_Mod_level_39 : decode b_Mod_level 39 = .ok (.aload_n 0, 1) := by decide +kernel
theorem d_Mod_level_40 : decode b_Mod_level 40 = .ok (.getfield 84, 3) := by decide +kernel
theorem d_Mod_level_43 : decode b_Mod_level 43 = .ok (.if_icmp .ne 10, 3) := by decide +kernel
theorem d_Mod_level_46 : decode b_Mod_level 46 = .ok (.aload_n 0, 1) := by decide +kernel
theorem d_Mod_level_47 : decode b_Mod_level 47 = .ok (.getfield 81, 3) := by decide +kernel
theorem d_Mod_level_50 : decode b_Mod_level 50 = .ok (.goto 11, 3) := by decide +kernel
theorem d_Mod_level_53 : decode b_Mod_level 53 = .ok (.aload_n 0, 1) := by decide +kernel
theorem d_Mod_level_54 : decode b_Mod_level 54 = .ok (.getfield 53, 3) := by decide +kernel
theorem d_Mod_level_57 : decode b_Mod_level 57 = .ok (.iload_n 1, 1) := by decide +kernel
theorem d_Mod_level_58 : decode b_Mod_level 58 = .ok (.iconst 1, 1) := by decide +kernel
theorem d_Mod_level_59 : decode b_Mod_level 59 = .ok (.iadd, 1) := by decide +kernel
theorem d_Mod_level_60 : decode b_Mod_level 60 = .ok (.iaload, 1) := by decide +kernel
theorem d_Mod_level_61 : decode b_Mod_level 61 = .ok (.aload_n 0, 1) := by decide +kernel
theorem d_Mod_level_62 : decode b_Mod_level 62 = .ok (.getfield 53, 3) := by decide +kernel
theorem d_Mod_level_65 : decode b_Mod_level 65 = .ok (.iload_n 1, 1) := by decide +kernel
theorem d_Mod_level_66 : decode b_Mod_level 66 = .ok (.iaload, 1) := by decide +kernel
theorem d_Mod_level_67 : decode b_Mod_level 67 = .ok (.isub, 1) := by decide +kernel
theorem d_Mod_level_68 : decode b_Mod_level 68 = .ok (.ireturn, 1) := by decide +kernel
theorem d_Mod_begin_0 : decode b_Mod_begin 0 = .ok (.aload_n 0, 1) := by decide +kernel
theorem d_Mod_begin_1 : decode b_Mod_begin 1 = .ok (.iconst 0, 1) := by decide +kernel
theorem d_Mod_begin_2 : decode b_Mod_begin 2 = .ok (.putfield 78, 3) := by decide +kernel
theorem d_Mod_begin_5 : decode b_Mod_begin 5 = .ok (.aload_n 0, 1) := by decide +kernel
theorem d_Mod_begin_6 : decode b_Mod_begin 6 = .ok (.invokevirtual 94, 3) := by decide +kernel
theorem d_Mod_begin_9 : decode b_Mod_begin 9 = .ok (.return_, 1) := by decide +kernel
theorem d_Mod_cycle_0 : decode b_Mod_cycle 0 = .ok (.aload_n 0, 1) := by decide +kernel
theorem d_Mod_cycle_1 : decode b_Mod_cycle 1 = .ok (.iconst 0, 1) := by decide +kernel
theorem d_Mod_cycle_2 : decode b_Mod_cycle 2 = .ok (.putfield 78, 3) := by decide +kernel
theorem d_Mod_cycle_5 : decode b_Mod_cycle 5 = .ok (.aload_n 0, 1) := by decide +kernel
theorem d_Mod_cycle_6 : decode b_Mod_cycle 6 = .ok (.aload_n 0, 1) := by decide +kernel
theorem d_Mod_cycle_7 : decode b_Mod_cycle 7 = .ok (.getfield 107, 3) := by decide +kernel
theorem d_Mod_cycle_10 : decode b_Mod_cycle 10 = .ok (.iload_n 1, 1) := by decide +kernel
theorem d_Mod_cycle_11 : decode b_Mod_cycle 11 = .ok (.invokevirtual 128, 3) := by decide +kernel
theorem d_Mod_cycle_14 : decode b_Mod_cycle 14 = .ok (.iconst 0, 1) := by decide +kernel
theorem d_Mod_cycle_15 : decode b_Mod_cycle 15 = .ok (.istore_n 2, 1) := by decide +kernel
theorem d_Mod_cycle_16 : decode b_Mod_cycle 16 = .ok (.iload_n 2, 1) := by decide +kernel
theorem d_Mod_cycle_17 : decode b_Mod_cycle 17 = .ok (.aload_n 0, 1) := by decide +kernel
theorem d_Mod_cycle_18 : decode b_Mod_cycle 18 = .ok (.getfield 72, 3) := by decide +kernel
theorem d_Mod_cycle_21 : decode b_Mod_cycle 21 = .ok (.if_icmp .ge 21, 3) := by decide +kernel
theorem d_Mod_cycle_24 : decode b_Mod_cycle 24 = .ok (.aload_n 0, 1) := by decide +kernel
theorem d_Mod_cycle_25 : decode b_Mod_cycle 25 = .ok (.getfield 66, 3) := by decide +kernel
theorem d_Mod_cycle_28 : decode b_Mod_cycle 28 = .ok (.iload_n 2, 1) := by decide +kernel
theorem d_Mod_cycle_29 : decode b_Mod_cycle 29 = .ok (.aload_n 0, 1) := by decide +kernel
theorem d_Mod_cycle_30 : decode b_Mod_cycle 30 = .ok (.getfield 41, 3) := by decide +kernel
theorem d_Mod_cycle_33 : decode b_Mod_cycle 33 = .ok (.iload_n 2, 1) := by decide +kernel
theorem d_Mod_cycle_34 : decode b_Mod_cycle 34 = .ok (.baload, 1) := by decide +kernel
theorem d_Mod_cycle_35 : decode b_Mod_cycle 35 = .ok (.bastore, 1) := by decide +kernel
theorem d_Mod_cycle_36 : decode b_Mod_cycle 36 = .ok (.iinc 2 1, 3) := by decide +kernel
theorem d_Mod_cycle_39 : decode b_Mod_cycle 39 = .ok (.goto (-23), 3) := by decide +kernel
theorem d_Mod_cycle_42 : decode b_Mod_cycle 42 = .ok (.aload_n 0, 1) := by decide +kernel
theorem d_Mod_cycle_43 : decode b_Mod_cycle 43 = .ok (.aload_n 0, 1) := by decide +kernel
theorem d_Mod_cycle_44 : decode b_Mod_cycle 44 = .ok (.invokevirtual 132, 3) := by decide +kernel
theorem d_Mod_cycle_47 : decode b_Mod_cycle 47 = .ok (.putfield 62, 3) := by decide +kernel
theorem d_Mod_cycle_50 : decode b_Mod_cycle 50 = .ok (.aload_n 0, 1) := by decide +kernel
theorem d_Mod_cycle_51 : decode b_Mod_cycle 51 = .ok (.aload_n 0, 1) := by decide +kernel
theorem d_Mod_cycle_52 : decode b_Mod_cycle 52 = .ok (.invokevirtual 135, 3) := by decide +kernel
theorem d_Mod_cycle_55 : decode b_Mod_cycle 55 = .ok (.putfield 107, 3) := by decide +kernel
theorem d_Mod_cycle_58 : decode b_Mod_cycle 58 = .ok (.aload_n 0, 1) := by decide +kernel
theorem d_Mod_cycle_59 : decode b_Mod_cycle 59 = .ok (.dup, 1) := by decide +kernel
theorem d_Mod_cycle_60 : decode b_Mod_cycle 60 = .ok (.getfield 100, 3) := by decide +kernel
theorem d_Mod_cycle_63 : decode b_Mod_cycle 63 = .ok (.iconst 1, 1) := by decide +kernel
theorem d_Mod_cycle_64 : decode b_Mod_cycle 64 = .ok (.iadd, 1) := by decide +kernel
theorem d_Mod_cycle_65 : decode b_Mod_cycle 65 = .ok (.putfield 100, 3) := by decide +kernel
theorem d_Mod_cycle_68 : decode b_Mod_cycle 68 = .ok (.aload_n 0, 1) := by decide +kernel
theorem d_Mod_cycle_69 : decode b_Mod_cycle 69 = .ok (.getfield 62, 3) := by decide +kernel
theorem d_Mod_cycle_72 : decode b_Mod_cycle 72 = .ok (.ifCond .lt 7, 3) := by decide +kernel
theorem d_Mod_cycle_75 : decode b_Mod_cycle 75 = .ok (.iconst 1, 1) := by decide +kernel
theorem d_Mod_cycle_76 : decode b_Mod_cycle 76 = .ok (.goto 4, 3) := by decide +kernel
theorem d_Mod_cycle_79 : decode b_Mod_cycle 79 = .ok (.iconst 0, 1) := by decide +kernel
theorem d_Mod_cycle_80 : decode b_Mod_cycle 80 = .ok (.ireturn, 1) := by decide +kernel
theorem d_Mod_truth_0 : decode b_Mod_truth 0 = .ok (.aload_n 0, 1) := by decide +kernel
theorem d_Mod_truth_1 : decode b_Mod_truth 1 = .ok (.iload_n 1, 1) := by decide +kernel
theorem d_Mod_truth_2 : decode b_Mod_truth 2 = .ok (.aload_n 0, 1) := by decide +kernel
theorem d_Mod_truth_3 : decode b_Mod_truth 3 = .ok (.getfield 72, 3) := by decide +kernel
theorem d_Mod_truth_6 : decode b_Mod_truth 6 = .ok (.invokestatic 110, 3) := by decide +kernel
theorem d_Mod_truth_9 : decode b_Mod_truth 9 = .ok (.ifCond .ne 7, 3) := by decide +kernel
theorem d_Mod_truth_12 : decode b_Mod_truth 12 = .ok (.iconst 1, 1) := by decide +kernel
theorem d_Mod_truth_13 : decode b_Mod_truth 13 = .ok (.goto 4, 3) := by decide +kernel
theorem d_Mod_truth_16 : decode b_Mod_truth 16 = .ok (.iconst 0, 1) := by decide +kernel
theorem d_Mod_truth_17 : decode b_Mod_truth 17 = .ok (.iconst 0, 1) := by decide +kernel
theorem d_Mod_truth_18 : decode b_Mod_truth 18 = .ok (.invokevirtual 114, 3) := by decide +kernel
theorem d_Mod_truth_21 : decode b_Mod_truth 21 = .ok (.ifCond .ne 16, 3) := by decide +kernel
theorem d_Mod_truth_24 : decode b_Mod_truth 24 = .ok (.aload_n 0, 1) := by decide +kernel
theorem d_Mod_truth_25 : decode b_Mod_truth 25 = .ok (.getfield 66, 3) := by decide +kernel
theorem d_Mod_truth_28 : decode b_Mod_truth 28 = .ok (.iload_n 1, 1) := by decide +kernel
theorem d_Mod_truth_29 : decode b_Mod_truth 29 = .ok (.baload, 1) := by decide +kernel
theorem d_Mod_truth_30 : decode b_Mod_truth 30 = .ok (.ifCond .eq 7, 3) := by decide +kernel
theorem d_Mod_truth_33 : decode b_Mod_truth 33 = .ok (.iconst 1, 1) := by decide +kernel
theorem d_Mod_truth_34 : decode b_Mod_truth 34 = .ok (.goto 4, 3) := by decide +kernel
theorem d_Mod_truth_37 : decode b_Mod_truth 37 = .ok (.iconst 0, 1) := by decide +kernel
theorem d_Mod_truth_38 : decode b_Mod_truth 38 = .ok (.ireturn, 1) := by decide +kernel
theorem d_Mod_replay_0 : decode b_Mod_replay 0 = .ok (.aload_n 0, 1) := by decide +kernel
theorem d_Mod_replay_1 : decode b_Mod_replay 1 = .ok (.iconst 0, 1) := by decide +kernel
theorem d_Mod_replay_2 : decode b_Mod_replay 2 = .ok (.putfield 78, 3) := by decide +kernel
theorem d_Mod_replay_5 : decode b_Mod_replay 5 = .ok (.aload_n 0, 1) := by decide +kernel
theorem d_Mod_replay_6 : decode b_Mod_replay 6 = .ok (.getfield 91, 3) := by decide +kernel
theorem d_Mod_replay_9 : decode b_Mod_replay 9 = .ok (.ifCond .ne 5, 3) := by decide +kernel
theorem d_Mod_replay_12 : decode b_Mod_replay 12 = .ok (.iconst (-1), 1) := by decide +kernel
theorem d_Mod_replay_13 : decode b_Mod_replay 13 = .ok (.ireturn, 1) := by decide +kernel
theorem d_Mod_replay_14 : decode b_Mod_replay 14 = .ok (.aload_n 0, 1) := by decide +kernel
theorem d_Mod_replay_15 : decode b_Mod_replay 15 = .ok (.invokevirtual 94, 3) := by decide +kernel
theorem d_Mod_replay_18 : decode b_Mod_replay 18 = .ok (.iconst (-1), 1) := by decide +kernel
theorem d_Mod_replay_19 : decode b_Mod_replay 19 = .ok (.istore_n 1, 1) := by decide +kernel
theorem d_Mod_replay_20 : decode b_Mod_replay 20 = .ok (.iconst 0, 1) := by decide +kernel
theorem d_Mod_replay_21 : decode b_Mod_replay 21 = .ok (.istore_n 2, 1) := by decide +kernel
theorem d_Mod_replay_22 : decode b_Mod_replay 22 = .ok (.iload_n 2, 1) := by decide +kernel
theorem d_Mod_replay_23 : decode b_Mod_replay 23 = .ok (.aload_n 0, 1) := by decide +kernel
theorem d_Mod_replay_24 : decode b_Mod_replay 24 = .ok (.getfield 91, 3) := by decide +kernel
theorem d_Mod_replay_27 : decode b_Mod_replay 27 = .ok (.if_icmp .ge 28, 3) := by decide +kernel
theorem d_Mod_replay_30 : decode b_Mod_replay 30 = .ok (.aload_n 0, 1) := by decide +kernel
theorem d_Mod_replay_31 : decode b_Mod_replay 31 = .ok (.aload_n 0, 1) := by decide +kernel
theorem d_Mod_replay_32 : decode b_Mod_replay 32 = .ok (.getfield 59, 3) := by decide +kernel
theorem d_Mod_replay_35 : decode b_Mod_replay 35 = .ok (.iload_n 2, 1) := by decide +kernel
theorem d_Mod_replay_36 : decode b_Mod_replay 36 = .ok (.iaload, 1) := by decide +kernel
theorem d_Mod_replay_37 : decode b_Mod_replay 37 = .ok (.invokevirtual 149, 3) := by decide +kernel
theorem d_Mod_replay_40 : decode b_Mod_replay 40 = .ok (.ifCond .eq 9, 3) := by decide +kernel
theorem d_Mod_replay_43 : decode b_Mod_replay 43 = .ok (.iload_n 1, 1) := by decide +kernel
theorem d_Mod_replay_44 : decode b_Mod_replay 44 = .ok (.ifCond .ge 5, 3) := by decide +kernel
theorem d_Mod_replay_47 : decode b_Mod_replay 47 = .ok (.iload_n 2, 1) := by decide +kernel
theorem d_Mod_replay_48 : decode b_Mod_replay 48 = .ok (.istore_n 1, 1) := by decide +kernel
theorem d_Mod_replay_49 : decode b_Mod_replay 49 = .ok (.iinc 2 1, 3) := by decide +kernel
theorem d_Mod_replay_52 : decode b_Mod_replay 52 = .ok (.goto (-30), 3) := by decide +kernel
theorem d_Mod_replay_55 : decode b_Mod_replay 55 = .ok (.iload_n 1, 1) := by decide +kernel
theorem d_Mod_replay_56 : decode b_Mod_replay 56 = .ok (.ireturn, 1) := by decide +kernel
theorem d_Mod_count_0 : decode b_Mod_count 0 = .ok (.aload_n 0, 1) := by decide +kernel
theorem d_Mod_count_1 : decode b_Mod_count 1 = .ok (.iconst 0, 1) := by decide +kernel
theorem d_Mod_count_2 : decode b_Mod_count 2 = .ok (.putfield 78, 3) := by decide +kernel
theorem d_Mod_count_5 : decode b_Mod_count 5 = .ok (.iload_n 1, 1) := by decide +kernel
theorem d_Mod_count_6 : decode b_Mod_count 6 = .ok (.tableswitch 90 0 7 #[46, 51, 56, 63, 70, 75, 80, 85], 46) := by decide +kernel
theorem d_Mod_count_52 : decode b_Mod_count 52 = .ok (.aload_n 0, 1) := by decide +kernel
theorem d_Mod_count_53 : decode b_Mod_count 53 = .ok (.getfield 69, 3) := by decide +kernel
theorem d_Mod_count_56 : decode b_Mod_count 56 = .ok (.ireturn, 1) := by decide +kernel
theorem d_Mod_count_57 : decode b_Mod_count 57 = .ok (.aload_n 0, 1) := by decide +kernel
theorem d_Mod_count_58 : decode b_Mod_count 58 = .ok (.getfield 72, 3) := by decide +kernel
theorem d_Mod_count_61 : decode b_Mod_count 61 = .ok (.ireturn, 1) := by decide +kernel
theorem d_Mod_count_62 : decode b_Mod_count 62 = .ok (.aload_n 0, 1) := by decide +kernel
theorem d_Mod_count_63 : decode b_Mod_count 63 = .ok (.getfield 7, 3) := by decide +kernel
theorem d_Mod_count_66 : decode b_Mod_count 66 = .ok (.iconst 0, 1) := by decide +kernel
theorem d_Mod_count_67 : decode b_Mod_count 67 = .ok (.iaload, 1) := by decide +kernel
theorem d_Mod_count_68 : decode b_Mod_count 68 = .ok (.ireturn, 1) := by decide +kernel
theorem d_Mod_count_69 : decode b_Mod_count 69 = .ok (.aload_n 0, 1) := by decide +kernel
theorem d_Mod_count_70 : decode b_Mod_count 70 = .ok (.getfield 7, 3) := by decide +kernel
theorem d_Mod_count_73 : decode b_Mod_count 73 = .ok (.iconst 1, 1) := by decide +kernel
theorem d_Mod_count_74 : decode b_Mod_count 74 = .ok (.iaload, 1) := by decide +kernel
theorem d_Mod_count_75 : decode b_Mod_count 75 = .ok (.ireturn, 1) := by decide +kernel
theorem d_Mod_count_76 : decode b_Mod_count 76 = .ok (.aload_n 0, 1) := by decide +kernel
theorem d_Mod_count_77 : decode b_Mod_count 77 = .ok (.getfield 118, 3) := by decide +kernel
theorem d_Mod_count_80 : decode b_Mod_count 80 = .ok (.ireturn, 1) := by decide +kernel
theorem d_Mod_count_81 : decode b_Mod_count 81 = .ok (.aload_n 0, 1) := by decide +kernel
theorem d_Mod_count_82 : decode b_Mod_count 82 = .ok (.getfield 121, 3) := by decide +kernel
theorem d_Mod_count_85 : decode b_Mod_count 85 = .ok (.ireturn, 1) := by decide +kernel
theorem d_Mod_count_86 : decode b_Mod_count 86 = .ok (.aload_n 0, 1) := by decide +kernel
theorem d_Mod_count_87 : decode b_Mod_count 87 = .ok (.getfield 100, 3) := by decide +kernel
theorem d_Mod_count_90 : decode b_Mod_count 90 = .ok (.ireturn, 1) := by decide +kernel
theorem d_Mod_count_91 : decode b_Mod_count 91 = .ok (.aload_n 0, 1) := by decide +kernel
theorem d_Mod_count_92 : decode b_Mod_count 92 = .ok (.getfield 62, 3) := by decide +kernel
theorem d_Mod_count_95 : decode b_Mod_count 95 = .ok (.ireturn, 1) := by decide +kernel
theorem d_Mod_count_96 : decode b_Mod_count 96 = .ok (.iconst (-1), 1) := by decide +kernel
theorem d_Mod_count_97 : decode b_Mod_count 97 = .ok (.ireturn, 1) := by decide +kernel
