theorem dX7_init_0 : decode cX7_init 0 = .ok (.aload_n 0, 1) := by decide +kernel
theorem dX7_init_1 : decode cX7_init 1 = .ok (.invokespecial 1, 3) := by decide +kernel
theorem dX7_init_4 : decode cX7_init 4 = .ok (.aload_n 0, 1) := by decide +kernel
theorem dX7_init_5 : decode cX7_init 5 = .ok (.bipush 32, 2) := by decide +kernel
theorem dX7_init_7 : decode cX7_init 7 = .ok (.newarray .boolean, 2) := by decide +kernel
theorem dX7_init_9 : decode cX7_init 9 = .ok (.putfield 7, 3) := by decide +kernel
theorem dX7_init_12 : decode cX7_init 12 = .ok (.aload_n 0, 1) := by decide +kernel
theorem dX7_init_13 : decode cX7_init 13 = .ok (.bipush 32, 2) := by decide +kernel
theorem dX7_init_15 : decode cX7_init 15 = .ok (.newarray .int, 2) := by decide +kernel
theorem dX7_init_17 : decode cX7_init 17 = .ok (.putfield 13, 3) := by decide +kernel
theorem dX7_init_20 : decode cX7_init 20 = .ok (.aload_n 0, 1) := by decide +kernel
theorem dX7_init_21 : decode cX7_init 21 = .ok (.bipush 32, 2) := by decide +kernel
theorem dX7_init_23 : decode cX7_init 23 = .ok (.newarray .int, 2) := by decide +kernel
theorem dX7_init_25 : decode cX7_init 25 = .ok (.putfield 17, 3) := by decide +kernel
theorem dX7_init_28 : decode cX7_init 28 = .ok (.aload_n 0, 1) := by decide +kernel
theorem dX7_init_29 : decode cX7_init 29 = .ok (.bipush 32, 2) := by decide +kernel
theorem dX7_init_31 : decode cX7_init 31 = .ok (.newarray .int, 2) := by decide +kernel
theorem dX7_init_33 : decode cX7_init 33 = .ok (.putfield 20, 3) := by decide +kernel
theorem dX7_init_36 : decode cX7_init 36 = .ok (.aload_n 0, 1) := by decide +kernel
theorem dX7_init_37 : decode cX7_init 37 = .ok (.sipush 192, 3) := by decide +kernel
theorem dX7_init_40 : decode cX7_init 40 = .ok (.newarray .int, 2) := by decide +kernel
theorem dX7_init_42 : decode cX7_init 42 = .ok (.putfield 23, 3) := by decide +kernel
theorem dX7_init_45 : decode cX7_init 45 = .ok (.aload_n 0, 1) := by decide +kernel
theorem dX7_init_46 : decode cX7_init 46 = .ok (.sipush 192, 3) := by decide +kernel
theorem dX7_init_49 : decode cX7_init 49 = .ok (.newarray .int, 2) := by decide +kernel
theorem dX7_init_51 : decode cX7_init 51 = .ok (.putfield 26, 3) := by decide +kernel
theorem dX7_init_54 : decode cX7_init 54 = .ok (.aload_n 0, 1) := by decide +kernel
theorem dX7_init_55 : decode cX7_init 55 = .ok (.bipush 64, 2) := by decide +kernel
theorem dX7_init_57 : decode cX7_init 57 = .ok (.newarray .int, 2) := by decide +kernel
theorem dX7_init_59 : decode cX7_init 59 = .ok (.putfield 29, 3) := by decide +kernel
theorem dX7_init_62 : decode cX7_init 62 = .ok (.aload_n 0, 1) := by decide +kernel
theorem dX7_init_63 : decode cX7_init 63 = .ok (.bipush 64, 2) := by decide +kernel
theorem dX7_init_65 : decode cX7_init 65 = .ok (.newarray .int, 2) := by decide +kernel
theorem dX7_init_67 : decode cX7_init 67 = .ok (.putfield 32, 3) := by decide +kernel
theorem dX7_init_70 : decode cX7_init 70 = .ok (.aload_n 0, 1) := by decide +kernel
theorem dX7_init_71 : decode cX7_init 71 = .ok (.bipush 64, 2) := by decide +kernel
theorem dX7_init_73 : decode cX7_init 73 = .ok (.newarray .int, 2) := by decide +kernel
theorem dX7_init_75 : decode cX7_init 75 = .ok (.putfield 35, 3) := by decide +kernel
theorem dX7_init_78 : decode cX7_init 78 = .ok (.aload_n 0, 1) := by decide +kernel
theorem dX7_init_79 : decode cX7_init 79 = .ok (.sipush 2048, 3) := by decide +kernel
theorem dX7_init_82 : decode cX7_init 82 = .ok (.newarray .int, 2) := by decide +kernel
theorem dX7_init_84 : decode cX7_init 84 = .ok (.putfield 38, 3) := by decide +kernel
theorem dX7_init_87 : decode cX7_init 87 = .ok (.aload_n 0, 1) := by decide +kernel
theorem dX7_init_88 : decode cX7_init 88 = .ok (.bipush 8, 2) := by decide +kernel
theorem dX7_init_90 : decode cX7_init 90 = .ok (.newarray .int, 2) := by decide +kernel
theorem dX7_init_92 : decode cX7_init 92 = .ok (.putfield 41, 3) := by decide +kernel
theorem dX7_init_95 : decode cX7_init 95 = .ok (.aload_n 0, 1) := by decide +kernel
theorem dX7_init_96 : decode cX7_init 96 = .ok (.bipush 8, 2) := by decide +kernel
theorem dX7_init_98 : decode cX7_init 98 = .ok (.newarray .int, 2) := by decide +kernel
theorem dX7_init_100 : decode cX7_init 100 = .ok (.putfield 44, 3) := by decide +kernel
theorem dX7_init_103 : decode cX7_init 103 = .ok (.aload_n 0, 1) := by decide +kernel
theorem dX7_init_104 : decode cX7_init 104 = .ok (.bipush 8, 2) := by decide +kernel
theorem dX7_init_106 : decode cX7_init 106 = .ok (.newarray .int, 2) := by decide +kernel
theorem dX7_init_108 : decode cX7_init 108 = .ok (.putfield 47, 3) := by decide +kernel
theorem dX7_init_111 : decode cX7_init 111 = .ok (.aload_n 0, 1) := by decide +kernel
theorem dX7_init_112 : decode cX7_init 112 = .ok (.bipush 32, 2) := by decide +kernel
theorem dX7_init_114 : decode cX7_init 114 = .ok (.newarray .int, 2) := by decide +kernel
theorem dX7_init_116 : decode cX7_init 116 = .ok (.putfield 50, 3) := by decide +kernel
theorem dX7_init_119 : decode cX7_init 119 = .ok (.aload_n 0, 1) := by decide +kernel
theorem dX7_init_120 : decode cX7_init 120 = .ok (.bipush 20, 2) := by decide +kernel
theorem dX7_init_122 : decode cX7_init 122 = .ok (.newarray .int, 2) := by decide +kernel
theorem dX7_init_124 : decode cX7_init 124 = .ok (.putfield 53, 3) := by decide +kernel
theorem dX7_init_127 : decode cX7_init 127 = .ok (.aload_n 0, 1) := by decide +kernel
theorem dX7_init_128 : decode cX7_init 128 = .ok (.bipush 20, 2) := by decide +kernel
theorem dX7_init_130 : decode cX7_init 130 = .ok (.newarray .int, 2) := by decide +kernel
theorem dX7_init_132 : decode cX7_init 132 = .ok (.putfield 56, 3) := by decide +kernel
theorem dX7_init_135 : decode cX7_init 135 = .ok (.aload_n 0, 1) := by decide +kernel
theorem dX7_init_136 : decode cX7_init 136 = .ok (.bipush 20, 2) := by decide +kernel
theorem dX7_init_138 : decode cX7_init 138 = .ok (.newarray .int, 2) := by decide +kernel
theorem dX7_init_140 : decode cX7_init 140 = .ok (.putfield 59, 3) := by decide +kernel
theorem dX7_init_143 : decode cX7_init 143 = .ok (.aload_n 0, 1) := by decide +kernel
theorem dX7_init_144 : decode cX7_init 144 = .ok (.bipush 20, 2) := by decide +kernel
theorem dX7_init_146 : decode cX7_init 146 = .ok (.newarray .int, 2) := by decide +kernel
theorem dX7_init_148 : decode cX7_init 148 = .ok (.putfield 62, 3) := by decide +kernel
theorem dX7_init_151 : decode cX7_init 151 = .ok (.aload_n 0, 1) := by decide +kernel
theorem dX7_init_152 : decode cX7_init 152 = .ok (.bipush 8, 2) := by decide +kernel
theorem dX7_init_154 : decode cX7_init 154 = .ok (.newarray .int, 2) := by decide +kernel
theorem dX7_init_156 : decode cX7_init 156 = .ok (.putfield 65, 3) := by decide +kernel
theorem dX7_init_159 : decode cX7_init 159 = .ok (.aload_n 0, 1) := by decide +kernel
theorem dX7_init_160 : decode cX7_init 160 = .ok (.bipush 8, 2) := by decide +kernel
theorem dX7_init_162 : decode cX7_init 162 = .ok (.newarray .int, 2) := by decide +kernel
theorem dX7_init_164 : decode cX7_init 164 = .ok (.putfield 68, 3) := by decide +kernel
theorem dX7_init_167 : decode cX7_init 167 = .ok (.aload_n 0, 1) := by decide +kernel
theorem dX7_init_168 : decode cX7_init 168 = .ok (.bipush 8, 2) := by decide +kernel
theorem dX7_init_170 : decode cX7_init 170 = .ok (.newarray .int, 2) := by decide +kernel
theorem dX7_init_172 : decode cX7_init 172 = .ok (.putfield 71, 3) := by decide +kernel
theorem dX7_init_175 : decode cX7_init 175 = .ok (.aload_n 0, 1) := by decide +kernel
theorem dX7_init_176 : decode cX7_init 176 = .ok (.bipush 32, 2) := by decide +kernel
theorem dX7_init_178 : decode cX7_init 178 = .ok (.newarray .int, 2) := by decide +kernel
theorem dX7_init_180 : decode cX7_init 180 = .ok (.putfield 74, 3) := by decide +kernel
theorem dX7_init_183 : decode cX7_init 183 = .ok (.iconst 0, 1) := by decide +kernel
theorem dX7_init_184 : decode cX7_init 184 = .ok (.istore_n 1, 1) := by decide +kernel
theorem dX7_init_185 : decode cX7_init 185 = .ok (.iload_n 1, 1) := by decide +kernel
theorem dX7_init_186 : decode cX7_init 186 = .ok (.bipush 64, 2) := by decide +kernel
theorem dX7_init_188 : decode cX7_init 188 = .ok (.if_icmp .ge 16, 3) := by decide +kernel
theorem dX7_init_191 : decode cX7_init 191 = .ok (.aload_n 0, 1) := by decide +kernel
theorem dX7_init_192 : decode cX7_init 192 = .ok (.getfield 29, 3) := by decide +kernel
theorem dX7_init_195 : decode cX7_init 195 = .ok (.iload_n 1, 1) := by decide +kernel
theorem dX7_init_196 : decode cX7_init 196 = .ok (.iconst (-1), 1) := by decide +kernel
theorem dX7_init_197 : decode cX7_init 197 = .ok (.iastore, 1) := by decide +kernel
theorem dX7_init_198 : decode cX7_init 198 = .ok (.iinc 1 1, 3) := by decide +kernel
theorem dX7_init_201 : decode cX7_init 201 = .ok (.goto (-16), 3) := by decide +kernel
theorem dX7_init_204 : decode cX7_init 204 = .ok (.return_, 1) := by decide +kernel
theorem dX7_thrown_0 : decode cX7_thrown 0 = .ok (.aload_n 0, 1) := by decide +kernel
theorem dX7_thrown_1 : decode cX7_thrown 1 = .ok (.getfield 77, 3) := by decide +kernel
theorem dX7_thrown_4 : decode cX7_thrown 4 = .ok (.ireturn, 1) := by decide +kernel
theorem dX7_handleOf_0 : decode cX7_handleOf 0 = .ok (.iload_n 1, 1) := by decide +kernel
theorem dX7_handleOf_1 : decode cX7_handleOf 1 = .ok (.iconst (-1), 1) := by decide +kernel
theorem dX7_handleOf_2 : decode cX7_handleOf 2 = .ok (.if_icmp .ne 7, 3) := by decide +kernel
theorem dX7_handleOf_5 : decode cX7_handleOf 5 = .ok (.iconst (-1), 1) := by decide +kernel
theorem dX7_handleOf_6 : decode cX7_handleOf 6 = .ok (.goto 14, 3) := by decide +kernel
theorem dX7_handleOf_9 : decode cX7_handleOf 9 = .ok (.iload_n 1, 1) := by decide +kernel
theorem dX7_handleOf_10 : decode cX7_handleOf 10 = .ok (.bipush 32, 2) := by decide +kernel
theorem dX7_handleOf_12 : decode cX7_handleOf 12 = .ok (.aload_n 0, 1) := by decide +kernel
theorem dX7_handleOf_13 : decode cX7_handleOf 13 = .ok (.getfield 13, 3) := by decide +kernel
theorem dX7_handleOf_16 : decode cX7_handleOf 16 = .ok (.iload_n 1, 1) := by decide +kernel
theorem dX7_handleOf_17 : decode cX7_handleOf 17 = .ok (.iaload, 1) := by decide +kernel
theorem dX7_handleOf_18 : decode cX7_handleOf 18 = .ok (.imul, 1) := by decide +kernel
theorem dX7_handleOf_19 : decode cX7_handleOf 19 = .ok (.iadd, 1) := by decide +kernel
theorem dX7_handleOf_20 : decode cX7_handleOf 20 = .ok (.ireturn, 1) := by decide +kernel
theorem dX7_slotOf_0 : decode cX7_slotOf 0 = .ok (.iload_n 1, 1) := by decide +kernel
theorem dX7_slotOf_1 : decode cX7_slotOf 1 = .ok (.ifCond .ge 7, 3) := by decide +kernel
theorem dX7_slotOf_4 : decode cX7_slotOf 4 = .ok (.iconst 0, 1) := by decide +kernel
theorem dX7_slotOf_5 : decode cX7_slotOf 5 = .ok (.goto 7, 3) := by decide +kernel
theorem dX7_slotOf_8 : decode cX7_slotOf 8 = .ok (.iload_n 1, 1) := by decide +kernel
theorem dX7_slotOf_9 : decode cX7_slotOf 9 = .ok (.bipush 32, 2) := by decide +kernel
theorem dX7_slotOf_11 : decode cX7_slotOf 11 = .ok (.irem, 1) := by decide +kernel
theorem dX7_slotOf_12 : decode cX7_slotOf 12 = .ok (.istore_n 2, 1) := by decide +kernel
theorem dX7_slotOf_13 : decode cX7_slotOf 13 = .ok (.iload_n 1, 1) := by decide +kernel
theorem dX7_slotOf_14 : decode cX7_slotOf 14 = .ok (.ifCond .lt 29, 3) := by decide +kernel
theorem dX7_slotOf_17 : decode cX7_slotOf 17 = .ok (.aload_n 0, 1) := by decide +kernel
theorem dX7_slotOf_18 : decode cX7_slotOf 18 = .ok (.getfield 7, 3) := by decide +kernel
theorem dX7_slotOf_21 : decode cX7_slotOf 21 = .ok (.iload_n 2, 1) := by decide +kernel
theorem dX7_slotOf_22 : decode cX7_slotOf 22 = .ok (.baload, 1) := by decide +kernel
theorem dX7_slotOf_23 : decode cX7_slotOf 23 = .ok (.ifCond .eq 20, 3) := by decide +kernel
theorem dX7_slotOf_26 : decode cX7_slotOf 26 = .ok (.aload_n 0, 1) := by decide +kernel
theorem dX7_slotOf_27 : decode cX7_slotOf 27 = .ok (.getfield 13, 3) := by decide +kernel
theorem dX7_slotOf_30 : decode cX7_slotOf 30 = .ok (.iload_n 2, 1) := by decide +kernel
theorem dX7_slotOf_31 : decode cX7_slotOf 31 = .ok (.iaload, 1) := by decide +kernel
theorem dX7_slotOf_32 : decode cX7_slotOf 32 = .ok (.iload_n 1, 1) := by decide +kernel
theorem dX7_slotOf_33 : decode cX7_slotOf 33 = .ok (.bipush 32, 2) := by decide +kernel
theorem dX7_slotOf_35 : decode cX7_slotOf 35 = .ok (.idiv, 1) := by decide +kernel
theorem dX7_slotOf_36 : decode cX7_slotOf 36 = .ok (.if_icmp .ne 7, 3) := by decide +kernel
theorem dX7_slotOf_39 : decode cX7_slotOf 39 = .ok (.iload_n 2, 1) := by decide +kernel
theorem dX7_slotOf_40 : decode cX7_slotOf 40 = .ok (.goto 4, 3) := by decide +kernel
theorem dX7_slotOf_43 : decode cX7_slotOf 43 = .ok (.iconst (-1), 1) := by decide +kernel
theorem dX7_slotOf_44 : decode cX7_slotOf 44 = .ok (.ireturn, 1) := by decide +kernel
theorem dX7_has_0 : decode cX7_has 0 = .ok (.aload_n 0, 1) := by decide +kernel
theorem dX7_has_1 : decode cX7_has 1 = .ok (.getfield 17, 3) := by decide +kernel
theorem dX7_has_4 : decode cX7_has 4 = .ok (.iload_n 1, 1) := by decide +kernel
theorem dX7_has_5 : decode cX7_has 5 = .ok (.iaload, 1) := by decide +kernel
theorem dX7_has_6 : decode cX7_has 6 = .ok (.iload_n 2, 1) := by decide +kernel
theorem dX7_has_7 : decode cX7_has 7 = .ok (.ishr, 1) := by decide +kernel
theorem dX7_has_8 : decode cX7_has 8 = .ok (.iconst 1, 1) := by decide +kernel
theorem dX7_has_9 : decode cX7_has 9 = .ok (.iand, 1) := by decide +kernel
theorem dX7_has_10 : decode cX7_has 10 = .ok (.iconst 1, 1) := by decide +kernel
theorem dX7_has_11 : decode cX7_has 11 = .ok (.if_icmp .ne 7, 3) := by decide +kernel
theorem dX7_has_14 : decode cX7_has 14 = .ok (.iconst 1, 1) := by decide +kernel
theorem dX7_has_15 : decode cX7_has 15 = .ok (.goto 4, 3) := by decide +kernel
theorem dX7_has_18 : decode cX7_has 18 = .ok (.iconst 0, 1) := by decide +kernel
theorem dX7_has_19 : decode cX7_has 19 = .ok (.ireturn, 1) := by decide +kernel
theorem dX7_enters_0 : decode cX7_enters 0 = .ok (.aload_n 0, 1) := by decide +kernel
theorem dX7_enters_1 : decode cX7_enters 1 = .ok (.getfield 17, 3) := by decide +kernel
theorem dX7_enters_4 : decode cX7_enters 4 = .ok (.iload_n 1, 1) := by decide +kernel
theorem dX7_enters_5 : decode cX7_enters 5 = .ok (.iaload, 1) := by decide +kernel
theorem dX7_enters_6 : decode cX7_enters 6 = .ok (.istore_n 2, 1) := by decide +kernel
theorem dX7_enters_7 : decode cX7_enters 7 = .ok (.aload_n 0, 1) := by decide +kernel
theorem dX7_enters_8 : decode cX7_enters 8 = .ok (.getfield 29, 3) := by decide +kernel
theorem dX7_enters_11 : decode cX7_enters 11 = .ok (.iload_n 2, 1) := by decide +kernel
theorem dX7_enters_12 : decode cX7_enters 12 = .ok (.iaload, 1) := by decide +kernel
theorem dX7_enters_13 : decode cX7_enters 13 = .ok (.iconst (-1), 1) := by decide +kernel
theorem dX7_enters_14 : decode cX7_enters 14 = .ok (.if_icmp .ne 33, 3) := by decide +kernel
theorem dX7_enters_17 : decode cX7_enters 17 = .ok (.aload_n 0, 1) := by decide +kernel
theorem dX7_enters_18 : decode cX7_enters 18 = .ok (.getfield 29, 3) := by decide +kernel
theorem dX7_enters_21 : decode cX7_enters 21 = .ok (.iload_n 2, 1) := by decide +kernel
theorem dX7_enters_22 : decode cX7_enters 22 = .ok (.aload_n 0, 1) := by decide +kernel
theorem dX7_enters_23 : decode cX7_enters 23 = .ok (.getfield 81, 3) := by decide +kernel
theorem dX7_enters_26 : decode cX7_enters 26 = .ok (.iastore, 1) := by decide +kernel
theorem dX7_enters_27 : decode cX7_enters 27 = .ok (.aload_n 0, 1) := by decide +kernel
theorem dX7_enters_28 : decode cX7_enters 28 = .ok (.getfield 32, 3) := by decide +kernel
theorem dX7_enters_31 : decode cX7_enters 31 = .ok (.aload_n 0, 1) := by decide +kernel
theorem dX7_enters_32 : decode cX7_enters 32 = .ok (.getfield 81, 3) := by decide +kernel
theorem dX7_enters_35 : decode cX7_enters 35 = .ok (.iload_n 2, 1) := by decide +kernel
theorem dX7_enters_36 : decode cX7_enters 36 = .ok (.iastore, 1) := by decide +kernel
theorem dX7_enters_37 : decode cX7_enters 37 = .ok (.aload_n 0, 1) := by decide +kernel
theorem dX7_enters_38 : decode cX7_enters 38 = .ok (.dup, 1) := by decide +kernel
theorem dX7_enters_39 : decode cX7_enters 39 = .ok (.getfield 81, 3) := by decide +kernel
theorem dX7_enters_42 : decode cX7_enters 42 = .ok (.iconst 1, 1) := by decide +kernel
theorem dX7_enters_43 : decode cX7_enters 43 = .ok (.iadd, 1) := by decide +kernel
theorem dX7_enters_44 : decode cX7_enters 44 = .ok (.putfield 81, 3) := by decide +kernel
theorem dX7_enters_47 : decode cX7_enters 47 = .ok (.aload_n 0, 1) := by decide +kernel
theorem dX7_enters_48 : decode cX7_enters 48 = .ok (.getfield 29, 3) := by decide +kernel
theorem dX7_enters_51 : decode cX7_enters 51 = .ok (.iload_n 2, 1) := by decide +kernel
theorem dX7_enters_52 : decode cX7_enters 52 = .ok (.iaload, 1) := by decide +kernel
theorem dX7_enters_53 : decode cX7_enters 53 = .ok (.istore_n 3, 1) := by decide +kernel
theorem dX7_enters_54 : decode cX7_enters 54 = .ok (.aload_n 0, 1) := by decide +kernel
theorem dX7_enters_55 : decode cX7_enters 55 = .ok (.getfield 38, 3) := by decide +kernel
theorem dX7_enters_58 : decode cX7_enters 58 = .ok (.bipush 32, 2) := by decide +kernel
theorem dX7_enters_60 : decode cX7_enters 60 = .ok (.iload_n 3, 1) := by decide +kernel
theorem dX7_enters_61 : decode cX7_enters 61 = .ok (.imul, 1) := by decide +kernel
theorem dX7_enters_62 : decode cX7_enters 62 = .ok (.aload_n 0, 1) := by decide +kernel
theorem dX7_enters_63 : decode cX7_enters 63 = .ok (.getfield 35, 3) := by decide +kernel
theorem dX7_enters_66 : decode cX7_enters 66 = .ok (.iload_n 3, 1) := by decide +kernel
theorem dX7_enters_67 : decode cX7_enters 67 = .ok (.iaload, 1) := by decide +kernel
theorem dX7_enters_68 : decode cX7_enters 68 = .ok (.iadd, 1) := by decide +kernel
theorem dX7_enters_69 : decode cX7_enters 69 = .ok (.iload_n 1, 1) := by decide +kernel
theorem dX7_enters_70 : decode cX7_enters 70 = .ok (.iastore, 1) := by decide +kernel
theorem dX7_enters_71 : decode cX7_enters 71 = .ok (.aload_n 0, 1) := by decide +kernel
theorem dX7_enters_72 : decode cX7_enters 72 = .ok (.getfield 35, 3) := by decide +kernel
theorem dX7_enters_75 : decode cX7_enters 75 = .ok (.iload_n 3, 1) := by decide +kernel
theorem dX7_enters_76 : decode cX7_enters 76 = .ok (.dup2, 1) := by decide +kernel
theorem dX7_enters_77 : decode cX7_enters 77 = .ok (.iaload, 1) := by decide +kernel
theorem dX7_enters_78 : decode cX7_enters 78 = .ok (.iconst 1, 1) := by decide +kernel
theorem dX7_enters_79 : decode cX7_enters 79 = .ok (.iadd, 1) := by decide +kernel
theorem dX7_enters_80 : decode cX7_enters 80 = .ok (.iastore, 1) := by decide +kernel
theorem dX7_enters_81 : decode cX7_enters 81 = .ok (.return_, 1) := by decide +kernel
theorem dX7_leaves_0 : decode cX7_leaves 0 = .ok (.aload_n 0, 1) := by decide +kernel
theorem dX7_leaves_1 : decode cX7_leaves 1 = .ok (.getfield 29, 3) := by decide +kernel
theorem dX7_leaves_4 : decode cX7_leaves 4 = .ok (.aload_n 0, 1) := by decide +kernel
theorem dX7_leaves_5 : decode cX7_leaves 5 = .ok (.getfield 17, 3) := by decide +kernel
theorem dX7_leaves_8 : decode cX7_leaves 8 = .ok (.iload_n 1, 1) := by decide +kernel
theorem dX7_leaves_9 : decode cX7_leaves 9 = .ok (.iaload, 1) := by decide +kernel
theorem dX7_leaves_10 : decode cX7_leaves 10 = .ok (.iaload, 1) := by decide +kernel
theorem dX7_leaves_11 : decode cX7_leaves 11 = .ok (.istore_n 2, 1) := by decide +kernel
theorem dX7_leaves_12 : decode cX7_leaves 12 = .ok (.aload_n 0, 1) := by decide +kernel
theorem dX7_leaves_13 : decode cX7_leaves 13 = .ok (.getfield 35, 3) := by decide +kernel
theorem dX7_leaves_16 : decode cX7_leaves 16 = .ok (.iload_n 2, 1) := by decide +kernel
theorem dX7_leaves_17 : decode cX7_leaves 17 = .ok (.dup2, 1) := by decide +kernel
theorem dX7_leaves_18 : decode cX7_leaves 18 = .ok (.iaload, 1) := by decide +kernel
theorem dX7_leaves_19 : decode cX7_leaves 19 = .ok (.iconst 1, 1) := by decide +kernel
theorem dX7_leaves_20 : decode cX7_leaves 20 = .ok (.isub, 1) := by decide +kernel
theorem dX7_leaves_21 : decode cX7_leaves 21 = .ok (.iastore, 1) := by decide +kernel
theorem dX7_leaves_22 : decode cX7_leaves 22 = .ok (.aload_n 0, 1) := by decide +kernel
theorem dX7_leaves_23 : decode cX7_leaves 23 = .ok (.getfield 38, 3) := by decide +kernel
theorem dX7_leaves_26 : decode cX7_leaves 26 = .ok (.bipush 32, 2) := by decide +kernel
theorem dX7_leaves_28 : decode cX7_leaves 28 = .ok (.iload_n 2, 1) := by decide +kernel
theorem dX7_leaves_29 : decode cX7_leaves 29 = .ok (.imul, 1) := by decide +kernel
theorem dX7_leaves_30 : decode cX7_leaves 30 = .ok (.aload_n 0, 1) := by decide +kernel
theorem dX7_leaves_31 : decode cX7_leaves 31 = .ok (.getfield 35, 3) := by decide +kernel
theorem dX7_leaves_34 : decode cX7_leaves 34 = .ok (.iload_n 2, 1) := by decide +kernel
theorem dX7_leaves_35 : decode cX7_leaves 35 = .ok (.iaload, 1) := by decide +kernel
theorem dX7_leaves_36 : decode cX7_leaves 36 = .ok (.iadd, 1) := by decide +kernel
theorem dX7_leaves_37 : decode cX7_leaves 37 = .ok (.iaload, 1) := by decide +kernel
theorem dX7_leaves_38 : decode cX7_leaves 38 = .ok (.istore_n 3, 1) := by decide +kernel
theorem dX7_leaves_39 : decode cX7_leaves 39 = .ok (.bipush 32, 2) := by decide +kernel
theorem dX7_leaves_41 : decode cX7_leaves 41 = .ok (.iload_n 2, 1) := by decide +kernel
theorem dX7_leaves_42 : decode cX7_leaves 42 = .ok (.imul, 1) := by decide +kernel
theorem dX7_leaves_43 : decode cX7_leaves 43 = .ok (.istore 4, 2) := by decide +kernel
theorem dX7_leaves_45 : decode cX7_leaves 45 = .ok (.iload 4, 2) := by decide +kernel
theorem dX7_leaves_47 : decode cX7_leaves 47 = .ok (.bipush 32, 2) := by decide +kernel
theorem dX7_leaves_49 : decode cX7_leaves 49 = .ok (.iload_n 2, 1) := by decide +kernel
theorem dX7_leaves_50 : decode cX7_leaves 50 = .ok (.imul, 1) := by decide +kernel
theorem dX7_leaves_51 : decode cX7_leaves 51 = .ok (.aload_n 0, 1) := by decide +kernel
theorem dX7_leaves_52 : decode cX7_leaves 52 = .ok (.getfield 35, 3) := by decide +kernel
theorem dX7_leaves_55 : decode cX7_leaves 55 = .ok (.iload_n 2, 1) := by decide +kernel
theorem dX7_leaves_56 : decode cX7_leaves 56 = .ok (.iaload, 1) := by decide +kernel
theorem dX7_leaves_57 : decode cX7_leaves 57 = .ok (.iadd, 1) := by decide +kernel
theorem dX7_leaves_58 : decode cX7_leaves 58 = .ok (.if_icmp .ge 38, 3) := by decide +kernel
theorem dX7_leaves_61 : decode cX7_leaves 61 = .ok (.aload_n 0, 1) := by decide +kernel
theorem dX7_leaves_62 : decode cX7_leaves 62 = .ok (.getfield 38, 3) := by decide +kernel
theorem dX7_leaves_65 : decode cX7_leaves 65 = .ok (.iload 4, 2) := by decide +kernel
theorem dX7_leaves_67 : decode cX7_leaves 67 = .ok (.aload_n 0, 1) := by decide +kernel
theorem dX7_leaves_68 : decode cX7_leaves 68 = .ok (.getfield 38, 3) := by decide +kernel
theorem dX7_leaves_71 : decode cX7_leaves 71 = .ok (.iload 4, 2) := by decide +kernel
theorem dX7_leaves_73 : decode cX7_leaves 73 = .ok (.iaload, 1) := by decide +kernel
theorem dX7_leaves_74 : decode cX7_leaves 74 = .ok (.iload_n 1, 1) := by decide +kernel
theorem dX7_leaves_75 : decode cX7_leaves 75 = .ok (.if_icmp .ne 7, 3) := by decide +kernel
theorem dX7_leaves_78 : decode cX7_leaves 78 = .ok (.iload_n 3, 1) := by decide +kernel
theorem dX7_leaves_79 : decode cX7_leaves 79 = .ok (.goto 10, 3) := by decide +kernel
theorem dX7_leaves_82 : decode cX7_leaves 82 = .ok (.aload_n 0, 1) := by decide +kernel
theorem dX7_leaves_83 : decode cX7_leaves 83 = .ok (.getfield 38, 3) := by decide +kernel
theorem dX7_leaves_86 : decode cX7_leaves 86 = .ok (.iload 4, 2) := by decide +kernel
theorem dX7_leaves_88 : decode cX7_leaves 88 = .ok (.iaload, 1) := by decide +kernel
theorem dX7_leaves_89 : decode cX7_leaves 89 = .ok (.iastore, 1) := by decide +kernel
theorem dX7_leaves_90 : decode cX7_leaves 90 = .ok (.iinc 4 1, 3) := by decide +kernel
theorem dX7_leaves_93 : decode cX7_leaves 93 = .ok (.goto (-48), 3) := by decide +kernel
theorem dX7_leaves_96 : decode cX7_leaves 96 = .ok (.return_, 1) := by decide +kernel
set_option maxRecDepth 20000 in
theorem ggX7_becomes_X7_leaves : GoodIn wsX7_becomes wsX7_leaves := goodIn_r _ [6, 7, 1, 8, 9, 16, 17, 18, 19, 20, 21, 22, 23, 24, 25, 26, 27, 28, 29, 30, 31, 32, 33, 34, 35, 36, 37, 38, 39, 40, 41, 42, 43, 44, 45, 46] (by decide +kernel) (by decide +kernel)
set_option maxRecDepth 20000 in
theorem gX7_becomes_X7_leaves : GoodIn wsX7_becomes (wsV RX7 84 RX7 yX7_leaves wsX7_leaves) := goodIn_app (goodIn_of _ (by decide +kernel)) ggX7_becomes_X7_leaves
set_option maxRecDepth 20000 in
theorem ggX7_becomes_X7_enters : GoodIn wsX7_becomes wsX7_enters := goodIn_r _ [13, 1, 7, 14, 15, 9, 8, 16, 17, 18, 19, 20, 21, 22, 23, 24, 25, 26, 27, 28, 29, 30, 31, 32, 33, 34, 35, 36, 37, 38, 39, 40, 41, 42, 43, 44, 45, 46] (by decide +kernel) (by decide +kernel)
set_option maxRecDepth 20000 in
theorem gX7_becomes_X7_enters : GoodIn wsX7_becomes (wsV RX7 88 RX7 yX7_enters wsX7_enters) := goodIn_app (goodIn_of _ (by decide +kernel)) ggX7_becomes_X7_enters
theorem dX7_becomes_0 : decode cX7_becomes 0 = .ok (.aload_n 0, 1) := by decide +kernel
theorem dX7_becomes_1 : decode cX7_becomes 1 = .ok (.iload_n 1, 1) := by decide +kernel
theorem dX7_becomes_2 : decode cX7_becomes 2 = .ok (.invokevirtual 84, 3) := by decide +kernel
theorem dX7_becomes_5 : decode cX7_becomes 5 = .ok (.aload_n 0, 1) := by decide +kernel
theorem dX7_becomes_6 : decode cX7_becomes 6 = .ok (.getfield 17, 3) := by decide +kernel
theorem dX7_becomes_9 : decode cX7_becomes 9 = .ok (.iload_n 1, 1) := by decide +kernel
theorem dX7_becomes_10 : decode cX7_becomes 10 = .ok (.iload_n 2, 1) := by decide +kernel
theorem dX7_becomes_11 : decode cX7_becomes 11 = .ok (.iastore, 1) := by decide +kernel
theorem dX7_becomes_12 : decode cX7_becomes 12 = .ok (.aload_n 0, 1) := by decide +kernel
theorem dX7_becomes_13 : decode cX7_becomes 13 = .ok (.iload_n 1, 1) := by decide +kernel
theorem dX7_becomes_14 : decode cX7_becomes 14 = .ok (.invokevirtual 88, 3) := by decide +kernel
theorem dX7_becomes_17 : decode cX7_becomes 17 = .ok (.return_, 1) := by decide +kernel
theorem dX7_freeSlot_0 : decode cX7_freeSlot 0 = .ok (.iconst 0, 1) := by decide +kernel
theorem dX7_freeSlot_1 : decode cX7_freeSlot 1 = .ok (.istore_n 1, 1) := by decide +kernel
theorem dX7_freeSlot_2 : decode cX7_freeSlot 2 = .ok (.iload_n 1, 1) := by decide +kernel
theorem dX7_freeSlot_3 : decode cX7_freeSlot 3 = .ok (.bipush 32, 2) := by decide +kernel
theorem dX7_freeSlot_5 : decode cX7_freeSlot 5 = .ok (.if_icmp .ge 18, 3) := by decide +kernel
theorem dX7_freeSlot_8 : decode cX7_freeSlot 8 = .ok (.aload_n 0, 1) := by decide +kernel
theorem dX7_freeSlot_9 : decode cX7_freeSlot 9 = .ok (.getfield 7, 3) := by decide +kernel
theorem dX7_freeSlot_12 : decode cX7_freeSlot 12 = .ok (.iload_n 1, 1) := by decide +kernel
theorem dX7_freeSlot_13 : decode cX7_freeSlot 13 = .ok (.baload, 1) := by decide +kernel
theorem dX7_freeSlot_14 : decode cX7_freeSlot 14 = .ok (.ifCond .eq 9, 3) := by decide +kernel
theorem dX7_freeSlot_17 : decode cX7_freeSlot 17 = .ok (.iinc 1 1, 3) := by decide +kernel
theorem dX7_freeSlot_20 : decode cX7_freeSlot 20 = .ok (.goto (-18), 3) := by decide +kernel
theorem dX7_freeSlot_23 : decode cX7_freeSlot 23 = .ok (.iload_n 1, 1) := by decide +kernel
theorem dX7_freeSlot_24 : decode cX7_freeSlot 24 = .ok (.ireturn, 1) := by decide +kernel
set_option maxRecDepth 20000 in
theorem ggX7_makes_X7_freeSlot : GoodIn wsX7_makes wsX7_freeSlot := goodIn_r _ [8, 1, 18, 19, 20, 21, 22, 23, 24, 25, 26, 27, 28, 29, 30, 31, 32, 33, 34, 35, 36, 37, 38, 39, 40, 41, 42, 43, 44, 45, 46, 47, 48] (by decide +kernel) (by decide +kernel)
set_option maxRecDepth 20000 in
theorem gX7_makes_X7_freeSlot : GoodIn wsX7_makes (wsV RX7 91 RX7 yX7_freeSlot wsX7_freeSlot) := goodIn_app (goodIn_of _ (by decide +kernel)) ggX7_makes_X7_freeSlot
set_option maxRecDepth 20000 in
theorem ggX7_makes_X7_enters : GoodIn wsX7_makes wsX7_enters := goodIn_r _ [12, 2, 13, 14, 15, 16, 17, 18, 19, 20, 21, 22, 23, 24, 25, 26, 27, 28, 29, 30, 31, 32, 33, 34, 35, 36, 37, 38, 39, 40, 41, 42, 43, 44, 45, 46, 47, 48] (by decide +kernel) (by decide +kernel)
set_option maxRecDepth 20000 in
theorem gX7_makes_X7_enters : GoodIn wsX7_makes (wsV RX7 88 RX7 yX7_enters wsX7_enters) := goodIn_app (goodIn_of _ (by decide +kernel)) ggX7_makes_X7_enters
theorem dX7_makes_0 : decode cX7_makes 0 = .ok (.aload_n 0, 1) := by decide +kernel
theorem dX7_makes_1 : decode cX7_makes 1 = .ok (.invokevirtual 91, 3) := by decide +kernel
theorem dX7_makes_4 : decode cX7_makes 4 = .ok (.istore_n 1, 1) := by decide +kernel
theorem dX7_makes_5 : decode cX7_makes 5 = .ok (.aload_n 0, 1) := by decide +kernel
theorem dX7_makes_6 : decode cX7_makes 6 = .ok (.getfield 7, 3) := by decide +kernel
theorem dX7_makes_9 : decode cX7_makes 9 = .ok (.iload_n 1, 1) := by decide +kernel
theorem dX7_makes_10 : decode cX7_makes 10 = .ok (.iconst 1, 1) := by decide +kernel
theorem dX7_makes_11 : decode cX7_makes 11 = .ok (.bastore, 1) := by decide +kernel
theorem dX7_makes_12 : decode cX7_makes 12 = .ok (.aload_n 0, 1) := by decide +kernel
theorem dX7_makes_13 : decode cX7_makes 13 = .ok (.getfield 17, 3) := by decide +kernel
theorem dX7_makes_16 : decode cX7_makes 16 = .ok (.iload_n 1, 1) := by decide +kernel
theorem dX7_makes_17 : decode cX7_makes 17 = .ok (.iconst 0, 1) := by decide +kernel
theorem dX7_makes_18 : decode cX7_makes 18 = .ok (.iastore, 1) := by decide +kernel
theorem dX7_makes_19 : decode cX7_makes 19 = .ok (.aload_n 0, 1) := by decide +kernel
theorem dX7_makes_20 : decode cX7_makes 20 = .ok (.getfield 20, 3) := by decide +kernel
theorem dX7_makes_23 : decode cX7_makes 23 = .ok (.iload_n 1, 1) := by decide +kernel
theorem dX7_makes_24 : decode cX7_makes 24 = .ok (.iconst (-1), 1) := by decide +kernel
theorem dX7_makes_25 : decode cX7_makes 25 = .ok (.iastore, 1) := by decide +kernel
theorem dX7_makes_26 : decode cX7_makes 26 = .ok (.aload_n 0, 1) := by decide +kernel
theorem dX7_makes_27 : decode cX7_makes 27 = .ok (.iload_n 1, 1) := by decide +kernel
theorem dX7_makes_28 : decode cX7_makes 28 = .ok (.invokevirtual 88, 3) := by decide +kernel
theorem dX7_makes_31 : decode cX7_makes 31 = .ok (.iload_n 1, 1) := by decide +kernel
theorem dX7_makes_32 : decode cX7_makes 32 = .ok (.ireturn, 1) := by decide +kernel
set_option maxRecDepth 20000 in
theorem ggX7_adds_X7_becomes : GoodIn wsX7_adds wsX7_becomes := goodIn_r _ [9, 4, 10, 11, 12, 8, 13, 14, 15, 16, 17, 18, 19, 20, 21, 22, 23, 24, 25, 26, 27, 28, 29, 30, 31, 32, 33, 34, 35, 36, 37, 38, 39, 40, 41, 42, 43, 44, 45, 46, 47, 48, 49, 50, 51, 52, 53] (by decide +kernel) (by decide +kernel)
set_option maxRecDepth 20000 in
theorem gX7_adds_X7_becomes : GoodIn wsX7_adds (wsV RX7 98 RX7 yX7_becomes wsX7_becomes) := goodIn_app (goodIn_of _ (by decide +kernel)) ggX7_adds_X7_becomes
theorem dX7_adds_0 : decode cX7_adds 0 = .ok (.aload_n 0, 1) := by decide +kernel
theorem dX7_adds_1 : decode cX7_adds 1 = .ok (.getfield 23, 3) := by decide +kernel
theorem dX7_adds_4 : decode cX7_adds 4 = .ok (.bipush 6, 2) := by decide +kernel
theorem dX7_adds_6 : decode cX7_adds 6 = .ok (.iload_n 1, 1) := by decide +kernel
theorem dX7_adds_7 : decode cX7_adds 7 = .ok (.imul, 1) := by decide +kernel
theorem dX7_adds_8 : decode cX7_adds 8 = .ok (.iload_n 2, 1) := by decide +kernel
theorem dX7_adds_9 : decode cX7_adds 9 = .ok (.iadd, 1) := by decide +kernel
theorem dX7_adds_10 : decode cX7_adds 10 = .ok (.iload_n 3, 1) := by decide +kernel
theorem dX7_adds_11 : decode cX7_adds 11 = .ok (.iastore, 1) := by decide +kernel
theorem dX7_adds_12 : decode cX7_adds 12 = .ok (.aload_n 0, 1) := by decide +kernel
theorem dX7_adds_13 : decode cX7_adds 13 = .ok (.getfield 26, 3) := by decide +kernel
theorem dX7_adds_16 : decode cX7_adds 16 = .ok (.bipush 6, 2) := by decide +kernel
theorem dX7_adds_18 : decode cX7_adds 18 = .ok (.iload_n 1, 1) := by decide +kernel
theorem dX7_adds_19 : decode cX7_adds 19 = .ok (.imul, 1) := by decide +kernel
theorem dX7_adds_20 : decode cX7_adds 20 = .ok (.iload_n 2, 1) := by decide +kernel
theorem dX7_adds_21 : decode cX7_adds 21 = .ok (.iadd, 1) := by decide +kernel
theorem dX7_adds_22 : decode cX7_adds 22 = .ok (.aload_n 0, 1) := by decide +kernel
theorem dX7_adds_23 : decode cX7_adds 23 = .ok (.getfield 95, 3) := by decide +kernel
theorem dX7_adds_26 : decode cX7_adds 26 = .ok (.iastore, 1) := by decide +kernel
theorem dX7_adds_27 : decode cX7_adds 27 = .ok (.aload_n 0, 1) := by decide +kernel
theorem dX7_adds_28 : decode cX7_adds 28 = .ok (.iload_n 1, 1) := by decide +kernel
theorem dX7_adds_29 : decode cX7_adds 29 = .ok (.aload_n 0, 1) := by decide +kernel
theorem dX7_adds_30 : decode cX7_adds 30 = .ok (.getfield 17, 3) := by decide +kernel
theorem dX7_adds_33 : decode cX7_adds 33 = .ok (.iload_n 1, 1) := by decide +kernel
theorem dX7_adds_34 : decode cX7_adds 34 = .ok (.iaload, 1) := by decide +kernel
theorem dX7_adds_35 : decode cX7_adds 35 = .ok (.iconst 1, 1) := by decide +kernel
theorem dX7_adds_36 : decode cX7_adds 36 = .ok (.iload_n 2, 1) := by decide +kernel
theorem dX7_adds_37 : decode cX7_adds 37 = .ok (.ishl, 1) := by decide +kernel
theorem dX7_adds_38 : decode cX7_adds 38 = .ok (.ior, 1) := by decide +kernel
theorem dX7_adds_39 : decode cX7_adds 39 = .ok (.invokevirtual 98, 3) := by decide +kernel
theorem dX7_adds_42 : decode cX7_adds 42 = .ok (.return_, 1) := by decide +kernel
set_option maxRecDepth 20000 in
theorem ggX7_ends_X7_leaves : GoodIn wsX7_ends wsX7_leaves := goodIn_r _ [9, 10, 11, 12, 13, 14, 15, 16, 17, 18, 19, 20, 21, 22, 23, 24, 25, 26, 27, 28, 29, 30, 31, 32, 33, 34, 35, 36, 37, 38, 39, 40, 41, 42, 43, 44] (by decide +kernel) (by decide +kernel)
set_option maxRecDepth 20000 in
theorem gX7_ends_X7_leaves : GoodIn wsX7_ends (wsV RX7 84 RX7 yX7_leaves wsX7_leaves) := goodIn_app (goodIn_of _ (by decide +kernel)) ggX7_ends_X7_leaves
theorem dX7_ends_0 : decode cX7_ends 0 = .ok (.iconst 1, 1) := by decide +kernel
theorem dX7_ends_1 : decode cX7_ends 1 = .ok (.istore_n 2, 1) := by decide +kernel
theorem dX7_ends_2 : decode cX7_ends 2 = .ok (.iconst 0, 1) := by decide +kernel
theorem dX7_ends_3 : decode cX7_ends 3 = .ok (.istore_n 3, 1) := by decide +kernel
theorem dX7_ends_4 : decode cX7_ends 4 = .ok (.aload_n 0, 1) := by decide +kernel
theorem dX7_ends_5 : decode cX7_ends 5 = .ok (.getfield 74, 3) := by decide +kernel
theorem dX7_ends_8 : decode cX7_ends 8 = .ok (.iconst 0, 1) := by decide +kernel
theorem dX7_ends_9 : decode cX7_ends 9 = .ok (.iload_n 1, 1) := by decide +kernel
theorem dX7_ends_10 : decode cX7_ends 10 = .ok (.iastore, 1) := by decide +kernel
theorem dX7_ends_11 : decode cX7_ends 11 = .ok (.iload_n 2, 1) := by decide +kernel
theorem dX7_ends_12 : decode cX7_ends 12 = .ok (.ifCond .le 93, 3) := by decide +kernel
theorem dX7_ends_15 : decode cX7_ends 15 = .ok (.iinc 2 (-1), 3) := by decide +kernel
theorem dX7_ends_18 : decode cX7_ends 18 = .ok (.aload_n 0, 1) := by decide +kernel
theorem dX7_ends_19 : decode cX7_ends 19 = .ok (.getfield 74, 3) := by decide +kernel
theorem dX7_ends_22 : decode cX7_ends 22 = .ok (.iload_n 2, 1) := by decide +kernel
theorem dX7_ends_23 : decode cX7_ends 23 = .ok (.iaload, 1) := by decide +kernel
theorem dX7_ends_24 : decode cX7_ends 24 = .ok (.istore 4, 2) := by decide +kernel
theorem dX7_ends_26 : decode cX7_ends 26 = .ok (.aload_n 0, 1) := by decide +kernel
theorem dX7_ends_27 : decode cX7_ends 27 = .ok (.iload 4, 2) := by decide +kernel
theorem dX7_ends_29 : decode cX7_ends 29 = .ok (.invokevirtual 84, 3) := by decide +kernel
theorem dX7_ends_32 : decode cX7_ends 32 = .ok (.aload_n 0, 1) := by decide +kernel
theorem dX7_ends_33 : decode cX7_ends 33 = .ok (.getfield 7, 3) := by decide +kernel
theorem dX7_ends_36 : decode cX7_ends 36 = .ok (.iload 4, 2) := by decide +kernel
theorem dX7_ends_38 : decode cX7_ends 38 = .ok (.iconst 0, 1) := by decide +kernel
theorem dX7_ends_39 : decode cX7_ends 39 = .ok (.bastore, 1) := by decide +kernel
theorem dX7_ends_40 : decode cX7_ends 40 = .ok (.aload_n 0, 1) := by decide +kernel
theorem dX7_ends_41 : decode cX7_ends 41 = .ok (.getfield 13, 3) := by decide +kernel
theorem dX7_ends_44 : decode cX7_ends 44 = .ok (.iload 4, 2) := by decide +kernel
theorem dX7_ends_46 : decode cX7_ends 46 = .ok (.dup2, 1) := by decide +kernel
theorem dX7_ends_47 : decode cX7_ends 47 = .ok (.iaload, 1) := by decide +kernel
theorem dX7_ends_48 : decode cX7_ends 48 = .ok (.iconst 1, 1) := by decide +kernel
theorem dX7_ends_49 : decode cX7_ends 49 = .ok (.iadd, 1) := by decide +kernel
theorem dX7_ends_50 : decode cX7_ends 50 = .ok (.iastore, 1) := by decide +kernel
theorem dX7_ends_51 : decode cX7_ends 51 = .ok (.iinc 3 1, 3) := by decide +kernel
theorem dX7_ends_54 : decode cX7_ends 54 = .ok (.bipush 31, 2) := by decide +kernel
theorem dX7_ends_56 : decode cX7_ends 56 = .ok (.istore 5, 2) := by decide +kernel
theorem dX7_ends_58 : decode cX7_ends 58 = .ok (.iload 5, 2) := by decide +kernel
theorem dX7_ends_60 : decode cX7_ends 60 = .ok (.ifCond .lt 42, 3) := by decide +kernel
theorem dX7_ends_63 : decode cX7_ends 63 = .ok (.aload_n 0, 1) := by decide +kernel
theorem dX7_ends_64 : decode cX7_ends 64 = .ok (.getfield 7, 3) := by decide +kernel
theorem dX7_ends_67 : decode cX7_ends 67 = .ok (.iload 5, 2) := by decide +kernel
theorem dX7_ends_69 : decode cX7_ends 69 = .ok (.baload, 1) := by decide +kernel
theorem dX7_ends_70 : decode cX7_ends 70 = .ok (.ifCond .eq 26, 3) := by decide +kernel
theorem dX7_ends_73 : decode cX7_ends 73 = .ok (.aload_n 0, 1) := by decide +kernel
theorem dX7_ends_74 : decode cX7_ends 74 = .ok (.getfield 20, 3) := by decide +kernel
theorem dX7_ends_77 : decode cX7_ends 77 = .ok (.iload 5, 2) := by decide +kernel
theorem dX7_ends_79 : decode cX7_ends 79 = .ok (.iaload, 1) := by decide +kernel
theorem dX7_ends_80 : decode cX7_ends 80 = .ok (.iload 4, 2) := by decide +kernel
theorem dX7_ends_82 : decode cX7_ends 82 = .ok (.if_icmp .ne 14, 3) := by decide +kernel
theorem dX7_ends_85 : decode cX7_ends 85 = .ok (.aload_n 0, 1) := by decide +kernel
theorem dX7_ends_86 : decode cX7_ends 86 = .ok (.getfield 74, 3) := by decide +kernel
theorem dX7_ends_89 : decode cX7_ends 89 = .ok (.iload_n 2, 1) := by decide +kernel
theorem dX7_ends_90 : decode cX7_ends 90 = .ok (.iload 5, 2) := by decide +kernel
theorem dX7_ends_92 : decode cX7_ends 92 = .ok (.iastore, 1) := by decide +kernel
theorem dX7_ends_93 : decode cX7_ends 93 = .ok (.iinc 2 1, 3) := by decide +kernel
theorem dX7_ends_96 : decode cX7_ends 96 = .ok (.iinc 5 (-1), 3) := by decide +kernel
theorem dX7_ends_99 : decode cX7_ends 99 = .ok (.goto (-41), 3) := by decide +kernel
theorem dX7_ends_102 : decode cX7_ends 102 = .ok (.goto (-91), 3) := by decide +kernel
theorem dX7_ends_105 : decode cX7_ends 105 = .ok (.iload_n 3, 1) := by decide +kernel
theorem dX7_ends_106 : decode cX7_ends 106 = .ok (.ireturn, 1) := by decide +kernel
set_option maxRecDepth 20000 in
theorem ggX7_make_X7_freeSlot : GoodIn wsX7_make wsX7_freeSlot := goodIn_r _ [7, 8, 29, 30, 31, 32, 33, 34, 35, 36, 37, 38, 39, 40, 41, 42, 43, 44, 45, 46, 47, 48, 49, 50, 51, 52, 53, 54, 55, 56, 57, 58, 59] (by decide +kernel) (by decide +kernel)
set_option maxRecDepth 20000 in
theorem gX7_make_X7_freeSlot : GoodIn wsX7_make (wsV RX7 91 RX7 yX7_freeSlot wsX7_freeSlot) := goodIn_app (goodIn_of _ (by decide +kernel)) ggX7_make_X7_freeSlot
set_option maxRecDepth 20000 in
theorem ggX7_make_X7_makes : GoodIn wsX7_make wsX7_makes := goodIn_r _ [12, 8, 13, 14, 3, 4, 5, 6, 7, 15, 16, 17, 18, 19, 20, 21, 22, 23, 29, 30, 31, 32, 33, 34, 35, 36, 37, 38, 39, 40, 41, 42, 43, 44, 45, 46, 47, 48, 49, 50, 51, 52, 53, 54, 55, 56, 57, 58, 59] (by decide +kernel) (by decide +kernel)
set_option maxRecDepth 20000 in
theorem gX7_make_X7_makes : GoodIn wsX7_make (wsV RX7 106 RX7 yX7_makes wsX7_makes) := goodIn_app (goodIn_of _ (by decide +kernel)) ggX7_make_X7_makes
set_option maxRecDepth 20000 in
theorem ggX7_make_X7_handleOf : GoodIn wsX7_make wsX7_handleOf := goodIn_r _ [27, 28, 29, 30, 31, 32, 33, 34, 35, 36, 37, 38, 39, 40, 41, 42, 43, 44, 45, 46, 47, 48, 49, 50, 51, 52, 53, 54, 55, 56, 57, 58, 59] (by decide +kernel) (by decide +kernel)
set_option maxRecDepth 20000 in
theorem gX7_make_X7_handleOf : GoodIn wsX7_make (wsV RX7 109 RX7 yX7_handleOf wsX7_handleOf) := goodIn_app (goodIn_of _ (by decide +kernel)) ggX7_make_X7_handleOf
theorem dX7_make_0 : decode cX7_make 0 = .ok (.aload_n 0, 1) := by decide +kernel
theorem dX7_make_1 : decode cX7_make 1 = .ok (.aload_n 0, 1) := by decide +kernel
theorem dX7_make_2 : decode cX7_make 2 = .ok (.invokevirtual 91, 3) := by decide +kernel
theorem dX7_make_5 : decode cX7_make 5 = .ok (.bipush 32, 2) := by decide +kernel
theorem dX7_make_7 : decode cX7_make 7 = .ok (.if_icmp .eq 10, 3) := by decide +kernel
theorem dX7_make_10 : decode cX7_make 10 = .ok (.aload_n 0, 1) := by decide +kernel
theorem dX7_make_11 : decode cX7_make 11 = .ok (.getfield 102, 3) := by decide +kernel
theorem dX7_make_14 : decode cX7_make 14 = .ok (.ifCond .eq 7, 3) := by decide +kernel
theorem dX7_make_17 : decode cX7_make 17 = .ok (.iconst 1, 1) := by decide +kernel
theorem dX7_make_18 : decode cX7_make 18 = .ok (.goto 4, 3) := by decide +kernel
theorem dX7_make_21 : decode cX7_make 21 = .ok (.iconst 0, 1) := by decide +kernel
theorem dX7_make_22 : decode cX7_make 22 = .ok (.putfield 77, 3) := by decide +kernel
theorem dX7_make_25 : decode cX7_make 25 = .ok (.aload_n 0, 1) := by decide +kernel
theorem dX7_make_26 : decode cX7_make 26 = .ok (.getfield 77, 3) := by decide +kernel
theorem dX7_make_29 : decode cX7_make 29 = .ok (.ifCond .le 7, 3) := by decide +kernel
theorem dX7_make_32 : decode cX7_make 32 = .ok (.iconst 0, 1) := by decide +kernel
theorem dX7_make_33 : decode cX7_make 33 = .ok (.goto 11, 3) := by decide +kernel
theorem dX7_make_36 : decode cX7_make 36 = .ok (.aload_n 0, 1) := by decide +kernel
theorem dX7_make_37 : decode cX7_make 37 = .ok (.aload_n 0, 1) := by decide +kernel
theorem dX7_make_38 : decode cX7_make 38 = .ok (.invokevirtual 106, 3) := by decide +kernel
theorem dX7_make_41 : decode cX7_make 41 = .ok (.invokevirtual 109, 3) := by decide +kernel
theorem dX7_make_44 : decode cX7_make 44 = .ok (.ireturn, 1) := by decide +kernel
set_option maxRecDepth 20000 in
theorem ggX7_end_X7_slotOf : GoodIn wsX7_end wsX7_slotOf := goodIn_r _ [7, 8, 9, 24, 25, 26, 27, 28, 29, 30, 31, 32, 33, 34, 35, 36, 37, 38, 39, 40, 41, 42, 43, 44, 45, 46, 47, 48, 49, 50, 51, 52, 53, 54] (by decide +kernel) (by decide +kernel)
set_option maxRecDepth 20000 in
theorem gX7_end_X7_slotOf : GoodIn wsX7_end (wsV RX7 113 RX7 yX7_slotOf wsX7_slotOf) := goodIn_app (goodIn_of _ (by decide +kernel)) ggX7_end_X7_slotOf
set_option maxRecDepth 20000 in
theorem ggX7_end_X7_ends : GoodIn wsX7_end wsX7_ends := goodIn_r _ [13, 14, 8, 9, 15, 16, 17, 18, 6, 19, 20, 21, 22, 23, 24, 25, 26, 27, 28, 29, 30, 31, 32, 33, 34, 35, 36, 37, 38, 39, 40, 41, 42, 43, 44, 45, 46, 47, 48, 49, 50, 51, 52, 53, 54] (by decide +kernel) (by decide +kernel)
set_option maxRecDepth 20000 in
theorem gX7_end_X7_ends : GoodIn wsX7_end (wsV RX7 116 RX7 yX7_ends wsX7_ends) := goodIn_app (goodIn_of _ (by decide +kernel)) ggX7_end_X7_ends
theorem dX7_end_0 : decode cX7_end 0 = .ok (.aload_n 0, 1) := by decide +kernel
theorem dX7_end_1 : decode cX7_end 1 = .ok (.iload_n 1, 1) := by decide +kernel
theorem dX7_end_2 : decode cX7_end 2 = .ok (.invokevirtual 113, 3) := by decide +kernel
theorem dX7_end_5 : decode cX7_end 5 = .ok (.istore_n 2, 1) := by decide +kernel
theorem dX7_end_6 : decode cX7_end 6 = .ok (.aload_n 0, 1) := by decide +kernel
theorem dX7_end_7 : decode cX7_end 7 = .ok (.iload_n 2, 1) := by decide +kernel
theorem dX7_end_8 : decode cX7_end 8 = .ok (.iconst (-1), 1) := by decide +kernel
theorem dX7_end_9 : decode cX7_end 9 = .ok (.if_icmp .ne 7, 3) := by decide +kernel
theorem dX7_end_12 : decode cX7_end 12 = .ok (.iconst 1, 1) := by decide +kernel
theorem dX7_end_13 : decode cX7_end 13 = .ok (.goto 15, 3) := by decide +kernel
theorem dX7_end_16 : decode cX7_end 16 = .ok (.aload_n 0, 1) := by decide +kernel
theorem dX7_end_17 : decode cX7_end 17 = .ok (.getfield 102, 3) := by decide +kernel
theorem dX7_end_20 : decode cX7_end 20 = .ok (.ifCond .eq 7, 3) := by decide +kernel
theorem dX7_end_23 : decode cX7_end 23 = .ok (.iconst 2, 1) := by decide +kernel
theorem dX7_end_24 : decode cX7_end 24 = .ok (.goto 4, 3) := by decide +kernel
theorem dX7_end_27 : decode cX7_end 27 = .ok (.iconst 0, 1) := by decide +kernel
theorem dX7_end_28 : decode cX7_end 28 = .ok (.putfield 77, 3) := by decide +kernel
theorem dX7_end_31 : decode cX7_end 31 = .ok (.aload_n 0, 1) := by decide +kernel
theorem dX7_end_32 : decode cX7_end 32 = .ok (.getfield 77, 3) := by decide +kernel
theorem dX7_end_35 : decode cX7_end 35 = .ok (.ifCond .le 7, 3) := by decide +kernel
theorem dX7_end_38 : decode cX7_end 38 = .ok (.iconst 0, 1) := by decide +kernel
theorem dX7_end_39 : decode cX7_end 39 = .ok (.goto 8, 3) := by decide +kernel
theorem dX7_end_42 : decode cX7_end 42 = .ok (.aload_n 0, 1) := by decide +kernel
theorem dX7_end_43 : decode cX7_end 43 = .ok (.iload_n 2, 1) := by decide +kernel
theorem dX7_end_44 : decode cX7_end 44 = .ok (.invokevirtual 116, 3) := by decide +kernel
theorem dX7_end_47 : decode cX7_end 47 = .ok (.ireturn, 1) := by decide +kernel
theorem dX7_goesWith_0 : decode cX7_goesWith 0 = .ok (.iload_n 1, 1) := by decide +kernel
theorem dX7_goesWith_1 : decode cX7_goesWith 1 = .ok (.istore_n 3, 1) := by decide +kernel
theorem dX7_goesWith_2 : decode cX7_goesWith 2 = .ok (.iload_n 3, 1) := by decide +kernel
theorem dX7_goesWith_3 : decode cX7_goesWith 3 = .ok (.iconst (-1), 1) := by decide +kernel
theorem dX7_goesWith_4 : decode cX7_goesWith 4 = .ok (.if_icmp .eq 18, 3) := by decide +kernel
theorem dX7_goesWith_7 : decode cX7_goesWith 7 = .ok (.iload_n 3, 1) := by decide +kernel
theorem dX7_goesWith_8 : decode cX7_goesWith 8 = .ok (.iload_n 2, 1) := by decide +kernel
theorem dX7_goesWith_9 : decode cX7_goesWith 9 = .ok (.if_icmp .eq 13, 3) := by decide +kernel
theorem dX7_goesWith_12 : decode cX7_goesWith 12 = .ok (.aload_n 0, 1) := by decide +kernel
theorem dX7_goesWith_13 : decode cX7_goesWith 13 = .ok (.getfield 20, 3) := by decide +kernel
theorem dX7_goesWith_16 : decode cX7_goesWith 16 = .ok (.iload_n 3, 1) := by decide +kernel
theorem dX7_goesWith_17 : decode cX7_goesWith 17 = .ok (.iaload, 1) := by decide +kernel
theorem dX7_goesWith_18 : decode cX7_goesWith 18 = .ok (.istore_n 3, 1) := by decide +kernel
theorem dX7_goesWith_19 : decode cX7_goesWith 19 = .ok (.goto (-17), 3) := by decide +kernel
theorem dX7_goesWith_22 : decode cX7_goesWith 22 = .ok (.iload_n 3, 1) := by decide +kernel
theorem dX7_goesWith_23 : decode cX7_goesWith 23 = .ok (.iload_n 2, 1) := by decide +kernel
theorem dX7_goesWith_24 : decode cX7_goesWith 24 = .ok (.if_icmp .ne 7, 3) := by decide +kernel
theorem dX7_goesWith_27 : decode cX7_goesWith 27 = .ok (.iconst 1, 1) := by decide +kernel
theorem dX7_goesWith_28 : decode cX7_goesWith 28 = .ok (.goto 4, 3) := by decide +kernel
theorem dX7_goesWith_31 : decode cX7_goesWith 31 = .ok (.iconst 0, 1) := by decide +kernel
theorem dX7_goesWith_32 : decode cX7_goesWith 32 = .ok (.ireturn, 1) := by decide +kernel
set_option maxRecDepth 20000 in
theorem ggX7_adopt_X7_slotOf : GoodIn wsX7_adopt wsX7_slotOf := goodIn_r _ [8, 9, 10, 19, 20, 21, 22, 23, 24, 25, 26, 27, 28, 29, 30, 31, 32, 33, 34, 35, 36, 37, 38, 39, 40, 41, 42, 43, 44, 45, 46, 47, 48, 49] (by decide +kernel) (by decide +kernel)
set_option maxRecDepth 20000 in
theorem gX7_adopt_X7_slotOf : GoodIn wsX7_adopt (wsV RX7 113 RX7 yX7_slotOf wsX7_slotOf) := goodIn_app (goodIn_of _ (by decide +kernel)) ggX7_adopt_X7_slotOf
set_option maxRecDepth 20000 in
theorem ggX7_adopt_X7_goesWith : GoodIn wsX7_adopt wsX7_goesWith := goodIn_r _ [14, 3, 19, 20, 21, 22, 23, 24, 25, 26, 27, 28, 29, 30, 31, 32, 33, 34, 35, 36, 37, 38, 39, 40, 41, 42, 43, 44, 45, 46, 47, 48, 49] (by decide +kernel) (by decide +kernel)
set_option maxRecDepth 20000 in
theorem gX7_adopt_X7_goesWith : GoodIn wsX7_adopt (wsV RX7 119 RX7 yX7_goesWith wsX7_goesWith) := goodIn_app (goodIn_of _ (by decide +kernel)) ggX7_adopt_X7_goesWith
set_option maxRecDepth 20000 in
theorem ggX7_adopt_X7_handleOf : GoodIn wsX7_adopt wsX7_handleOf := goodIn_r _ [18, 10, 19, 20, 21, 22, 23, 24, 25, 26, 27, 28, 29, 30, 31, 32, 33, 34, 35, 36, 37, 38, 39, 40, 41, 42, 43, 44, 45, 46, 47, 48, 49] (by decide +kernel) (by decide +kernel)
set_option maxRecDepth 20000 in
theorem gX7_adopt_X7_handleOf : GoodIn wsX7_adopt (wsV RX7 109 RX7 yX7_handleOf wsX7_handleOf) := goodIn_app (goodIn_of _ (by decide +kernel)) ggX7_adopt_X7_handleOf
theorem dX7_adopt_0 : decode cX7_adopt 0 = .ok (.aload_n 0, 1) := by decide +kernel
theorem dX7_adopt_1 : decode cX7_adopt 1 = .ok (.iload_n 1, 1) := by decide +kernel
theorem dX7_adopt_2 : decode cX7_adopt 2 = .ok (.invokevirtual 113, 3) := by decide +kernel
theorem dX7_adopt_5 : decode cX7_adopt 5 = .ok (.istore_n 3, 1) := by decide +kernel
theorem dX7_adopt_6 : decode cX7_adopt 6 = .ok (.iload_n 2, 1) := by decide +kernel
theorem dX7_adopt_7 : decode cX7_adopt 7 = .ok (.iconst (-1), 1) := by decide +kernel
theorem dX7_adopt_8 : decode cX7_adopt 8 = .ok (.if_icmp .ne 7, 3) := by decide +kernel
theorem dX7_adopt_11 : decode cX7_adopt 11 = .ok (.iconst (-1), 1) := by decide +kernel
theorem dX7_adopt_12 : decode cX7_adopt 12 = .ok (.goto 8, 3) := by decide +kernel
theorem dX7_adopt_15 : decode cX7_adopt 15 = .ok (.aload_n 0, 1) := by decide +kernel
theorem dX7_adopt_16 : decode cX7_adopt 16 = .ok (.iload_n 2, 1) := by decide +kernel
theorem dX7_adopt_17 : decode cX7_adopt 17 = .ok (.invokevirtual 113, 3) := by decide +kernel
theorem dX7_adopt_20 : decode cX7_adopt 20 = .ok (.istore 4, 2) := by decide +kernel
theorem dX7_adopt_22 : decode cX7_adopt 22 = .ok (.iload_n 3, 1) := by decide +kernel
theorem dX7_adopt_23 : decode cX7_adopt 23 = .ok (.iconst (-1), 1) := by decide +kernel
theorem dX7_adopt_24 : decode cX7_adopt 24 = .ok (.if_icmp .eq 18, 3) := by decide +kernel
theorem dX7_adopt_27 : decode cX7_adopt 27 = .ok (.iload_n 2, 1) := by decide +kernel
theorem dX7_adopt_28 : decode cX7_adopt 28 = .ok (.iconst (-1), 1) := by decide +kernel
theorem dX7_adopt_29 : decode cX7_adopt 29 = .ok (.if_icmp .eq 9, 3) := by decide +kernel
theorem dX7_adopt_32 : decode cX7_adopt 32 = .ok (.iload 4, 2) := by decide +kernel
theorem dX7_adopt_34 : decode cX7_adopt 34 = .ok (.iconst (-1), 1) := by decide +kernel
theorem dX7_adopt_35 : decode cX7_adopt 35 = .ok (.if_icmp .eq 7, 3) := by decide +kernel
theorem dX7_adopt_38 : decode cX7_adopt 38 = .ok (.iconst 1, 1) := by decide +kernel
theorem dX7_adopt_39 : decode cX7_adopt 39 = .ok (.goto 4, 3) := by decide +kernel
theorem dX7_adopt_42 : decode cX7_adopt 42 = .ok (.iconst 0, 1) := by decide +kernel
theorem dX7_adopt_43 : decode cX7_adopt 43 = .ok (.istore 5, 2) := by decide +kernel
theorem dX7_adopt_45 : decode cX7_adopt 45 = .ok (.aload_n 0, 1) := by decide +kernel
theorem dX7_adopt_46 : decode cX7_adopt 46 = .ok (.iload 5, 2) := by decide +kernel
theorem dX7_adopt_48 : decode cX7_adopt 48 = .ok (.ifCond .ne 7, 3) := by decide +kernel
theorem dX7_adopt_51 : decode cX7_adopt 51 = .ok (.iconst 1, 1) := by decide +kernel
theorem dX7_adopt_52 : decode cX7_adopt 52 = .ok (.goto 35, 3) := by decide +kernel
theorem dX7_adopt_55 : decode cX7_adopt 55 = .ok (.iload 4, 2) := by decide +kernel
theorem dX7_adopt_57 : decode cX7_adopt 57 = .ok (.iconst (-1), 1) := by decide +kernel
theorem dX7_adopt_58 : decode cX7_adopt 58 = .ok (.if_icmp .eq 17, 3) := by decide +kernel
theorem dX7_adopt_61 : decode cX7_adopt 61 = .ok (.aload_n 0, 1) := by decide +kernel
theorem dX7_adopt_62 : decode cX7_adopt 62 = .ok (.iload 4, 2) := by decide +kernel
theorem dX7_adopt_64 : decode cX7_adopt 64 = .ok (.iload_n 3, 1) := by decide +kernel
theorem dX7_adopt_65 : decode cX7_adopt 65 = .ok (.invokevirtual 119, 3) := by decide +kernel
theorem dX7_adopt_68 : decode cX7_adopt 68 = .ok (.ifCond .eq 7, 3) := by decide +kernel
theorem dX7_adopt_71 : decode cX7_adopt 71 = .ok (.iconst 2, 1) := by decide +kernel
theorem dX7_adopt_72 : decode cX7_adopt 72 = .ok (.goto 15, 3) := by decide +kernel
theorem dX7_adopt_75 : decode cX7_adopt 75 = .ok (.aload_n 0, 1) := by decide +kernel
theorem dX7_adopt_76 : decode cX7_adopt 76 = .ok (.getfield 102, 3) := by decide +kernel
theorem dX7_adopt_79 : decode cX7_adopt 79 = .ok (.ifCond .eq 7, 3) := by decide +kernel
theorem dX7_adopt_82 : decode cX7_adopt 82 = .ok (.iconst 3, 1) := by decide +kernel
theorem dX7_adopt_83 : decode cX7_adopt 83 = .ok (.goto 4, 3) := by decide +kernel
theorem dX7_adopt_86 : decode cX7_adopt 86 = .ok (.iconst 0, 1) := by decide +kernel
theorem dX7_adopt_87 : decode cX7_adopt 87 = .ok (.putfield 77, 3) := by decide +kernel
theorem dX7_adopt_90 : decode cX7_adopt 90 = .ok (.aload_n 0, 1) := by decide +kernel
theorem dX7_adopt_91 : decode cX7_adopt 91 = .ok (.getfield 77, 3) := by decide +kernel
theorem dX7_adopt_94 : decode cX7_adopt 94 = .ok (.ifCond .le 5, 3) := by decide +kernel
theorem dX7_adopt_97 : decode cX7_adopt 97 = .ok (.iconst 0, 1) := by decide +kernel
theorem dX7_adopt_98 : decode cX7_adopt 98 = .ok (.ireturn, 1) := by decide +kernel
theorem dX7_adopt_99 : decode cX7_adopt 99 = .ok (.aload_n 0, 1) := by decide +kernel
theorem dX7_adopt_100 : decode cX7_adopt 100 = .ok (.aload_n 0, 1) := by decide +kernel
theorem dX7_adopt_101 : decode cX7_adopt 101 = .ok (.getfield 20, 3) := by decide +kernel
theorem dX7_adopt_104 : decode cX7_adopt 104 = .ok (.iload_n 3, 1) := by decide +kernel
theorem dX7_adopt_105 : decode cX7_adopt 105 = .ok (.iaload, 1) := by decide +kernel
theorem dX7_adopt_106 : decode cX7_adopt 106 = .ok (.invokevirtual 109, 3) := by decide +kernel
theorem dX7_adopt_109 : decode cX7_adopt 109 = .ok (.istore 6, 2) := by decide +kernel
theorem dX7_adopt_111 : decode cX7_adopt 111 = .ok (.aload_n 0, 1) := by decide +kernel
theorem dX7_adopt_112 : decode cX7_adopt 112 = .ok (.getfield 20, 3) := by decide +kernel
theorem dX7_adopt_115 : decode cX7_adopt 115 = .ok (.iload_n 3, 1) := by decide +kernel
theorem dX7_adopt_116 : decode cX7_adopt 116 = .ok (.iload 4, 2) := by decide +kernel
theorem dX7_adopt_118 : decode cX7_adopt 118 = .ok (.iastore, 1) := by decide +kernel
theorem dX7_adopt_119 : decode cX7_adopt 119 = .ok (.iload 6, 2) := by decide +kernel
theorem dX7_adopt_121 : decode cX7_adopt 121 = .ok (.ireturn, 1) := by decide +kernel
theorem dX7_entities_0 : decode cX7_entities 0 = .ok (.aload_n 0, 1) := by decide +kernel
theorem dX7_entities_1 : decode cX7_entities 1 = .ok (.iconst 0, 1) := by decide +kernel
theorem dX7_entities_2 : decode cX7_entities 2 = .ok (.putfield 77, 3) := by decide +kernel
theorem dX7_entities_5 : decode cX7_entities 5 = .ok (.iconst 0, 1) := by decide +kernel
theorem dX7_entities_6 : decode cX7_entities 6 = .ok (.istore_n 1, 1) := by decide +kernel
theorem dX7_entities_7 : decode cX7_entities 7 = .ok (.iconst 0, 1) := by decide +kernel
theorem dX7_entities_8 : decode cX7_entities 8 = .ok (.istore_n 2, 1) := by decide +kernel
theorem dX7_entities_9 : decode cX7_entities 9 = .ok (.iload_n 2, 1) := by decide +kernel
theorem dX7_entities_10 : decode cX7_entities 10 = .ok (.bipush 32, 2) := by decide +kernel
theorem dX7_entities_12 : decode cX7_entities 12 = .ok (.if_icmp .ge 26, 3) := by decide +kernel
theorem dX7_entities_15 : decode cX7_entities 15 = .ok (.iload_n 1, 1) := by decide +kernel
theorem dX7_entities_16 : decode cX7_entities 16 = .ok (.aload_n 0, 1) := by decide +kernel
theorem dX7_entities_17 : decode cX7_entities 17 = .ok (.getfield 7, 3) := by decide +kernel
theorem dX7_entities_20 : decode cX7_entities 20 = .ok (.iload_n 2, 1) := by decide +kernel
theorem dX7_entities_21 : decode cX7_entities 21 = .ok (.baload, 1) := by decide +kernel
theorem dX7_entities_22 : decode cX7_entities 22 = .ok (.ifCond .eq 7, 3) := by decide +kernel
theorem dX7_entities_25 : decode cX7_entities 25 = .ok (.iconst 1, 1) := by decide +kernel
theorem dX7_entities_26 : decode cX7_entities 26 = .ok (.goto 4, 3) := by decide +kernel
theorem dX7_entities_29 : decode cX7_entities 29 = .ok (.iconst 0, 1) := by decide +kernel
theorem dX7_entities_30 : decode cX7_entities 30 = .ok (.iadd, 1) := by decide +kernel
theorem dX7_entities_31 : decode cX7_entities 31 = .ok (.istore_n 1, 1) := by decide +kernel
theorem dX7_entities_32 : decode cX7_entities 32 = .ok (.iinc 2 1, 3) := by decide +kernel
theorem dX7_entities_35 : decode cX7_entities 35 = .ok (.goto (-26), 3) := by decide +kernel
theorem dX7_entities_38 : decode cX7_entities 38 = .ok (.iload_n 1, 1) := by decide +kernel
theorem dX7_entities_39 : decode cX7_entities 39 = .ok (.ireturn, 1) := by decide +kernel
set_option maxRecDepth 20000 in
theorem ggX7_isThere_X7_slotOf : GoodIn wsX7_isThere wsX7_slotOf := goodIn_r _ [6, 7, 8, 9, 10, 11, 12, 13, 14, 15, 16, 17, 18, 19, 20, 21, 22, 23, 24, 25, 26, 27, 28, 29, 30, 31, 32, 33, 34, 35, 36, 37, 38, 39] (by decide +kernel) (by decide +kernel)
set_option maxRecDepth 20000 in
theorem gX7_isThere_X7_slotOf : GoodIn wsX7_isThere (wsV RX7 113 RX7 yX7_slotOf wsX7_slotOf) := goodIn_app (goodIn_of _ (by decide +kernel)) ggX7_isThere_X7_slotOf
theorem dX7_isThere_0 : decode cX7_isThere 0 = .ok (.aload_n 0, 1) := by decide +kernel
theorem dX7_isThere_1 : decode cX7_isThere 1 = .ok (.iconst 0, 1) := by decide +kernel
theorem dX7_isThere_2 : decode cX7_isThere 2 = .ok (.putfield 77, 3) := by decide +kernel
theorem dX7_isThere_5 : decode cX7_isThere 5 = .ok (.aload_n 0, 1) := by decide +kernel
theorem dX7_isThere_6 : decode cX7_isThere 6 = .ok (.iload_n 1, 1) := by decide +kernel
theorem dX7_isThere_7 : decode cX7_isThere 7 = .ok (.invokevirtual 113, 3) := by decide +kernel
theorem dX7_isThere_10 : decode cX7_isThere 10 = .ok (.iconst (-1), 1) := by decide +kernel
theorem dX7_isThere_11 : decode cX7_isThere 11 = .ok (.if_icmp .eq 7, 3) := by decide +kernel
theorem dX7_isThere_14 : decode cX7_isThere 14 = .ok (.iconst 1, 1) := by decide +kernel
theorem dX7_isThere_15 : decode cX7_isThere 15 = .ok (.goto 4, 3) := by decide +kernel
theorem dX7_isThere_18 : decode cX7_isThere 18 = .ok (.iconst 0, 1) := by decide +kernel
theorem dX7_isThere_19 : decode cX7_isThere 19 = .ok (.ireturn, 1) := by decide +kernel
set_option maxRecDepth 20000 in
theorem ggX7_children_X7_slotOf : GoodIn wsX7_children wsX7_slotOf := goodIn_r _ [8, 2, 9, 10, 11, 12, 13, 14, 15, 16, 17, 18, 19, 20, 21, 22, 23, 24, 25, 26, 27, 28, 29, 30, 31, 32, 33, 34, 35, 36, 37, 38, 39, 40] (by decide +kernel) (by decide +kernel)
set_option maxRecDepth 20000 in
theorem gX7_children_X7_slotOf : GoodIn wsX7_children (wsV RX7 113 RX7 yX7_slotOf wsX7_slotOf) := goodIn_app (goodIn_of _ (by decide +kernel)) ggX7_children_X7_slotOf
theorem dX7_children_0 : decode cX7_children 0 = .ok (.aload_n 0, 1) := by decide +kernel
theorem dX7_children_1 : decode cX7_children 1 = .ok (.iload_n 1, 1) := by decide +kernel
theorem dX7_children_2 : decode cX7_children 2 = .ok (.invokevirtual 113, 3) := by decide +kernel
theorem dX7_children_5 : decode cX7_children 5 = .ok (.istore_n 2, 1) := by decide +kernel
theorem dX7_children_6 : decode cX7_children 6 = .ok (.aload_n 0, 1) := by decide +kernel
theorem dX7_children_7 : decode cX7_children 7 = .ok (.iload_n 2, 1) := by decide +kernel
theorem dX7_children_8 : decode cX7_children 8 = .ok (.iconst (-1), 1) := by decide +kernel
theorem dX7_children_9 : decode cX7_children 9 = .ok (.if_icmp .ne 7, 3) := by decide +kernel
theorem dX7_children_12 : decode cX7_children 12 = .ok (.iconst 1, 1) := by decide +kernel
theorem dX7_children_13 : decode cX7_children 13 = .ok (.goto 4, 3) := by decide +kernel
theorem dX7_children_16 : decode cX7_children 16 = .ok (.iconst 0, 1) := by decide +kernel
theorem dX7_children_17 : decode cX7_children 17 = .ok (.putfield 77, 3) := by decide +kernel
theorem dX7_children_20 : decode cX7_children 20 = .ok (.iconst 0, 1) := by decide +kernel
theorem dX7_children_21 : decode cX7_children 21 = .ok (.istore_n 3, 1) := by decide +kernel
theorem dX7_children_22 : decode cX7_children 22 = .ok (.iconst 0, 1) := by decide +kernel
theorem dX7_children_23 : decode cX7_children 23 = .ok (.istore 4, 2) := by decide +kernel
theorem dX7_children_25 : decode cX7_children 25 = .ok (.iload 4, 2) := by decide +kernel
theorem dX7_children_27 : decode cX7_children 27 = .ok (.bipush 32, 2) := by decide +kernel
theorem dX7_children_29 : decode cX7_children 29 = .ok (.if_icmp .ge 48, 3) := by decide +kernel
theorem dX7_children_32 : decode cX7_children 32 = .ok (.aload_n 0, 1) := by decide +kernel
theorem dX7_children_33 : decode cX7_children 33 = .ok (.getfield 77, 3) := by decide +kernel
theorem dX7_children_36 : decode cX7_children 36 = .ok (.ifCond .ne 41, 3) := by decide +kernel
theorem dX7_children_39 : decode cX7_children 39 = .ok (.iload_n 3, 1) := by decide +kernel
theorem dX7_children_40 : decode cX7_children 40 = .ok (.aload_n 0, 1) := by decide +kernel
theorem dX7_children_41 : decode cX7_children 41 = .ok (.getfield 7, 3) := by decide +kernel
theorem dX7_children_44 : decode cX7_children 44 = .ok (.iload 4, 2) := by decide +kernel
theorem dX7_children_46 : decode cX7_children 46 = .ok (.baload, 1) := by decide +kernel
theorem dX7_children_47 : decode cX7_children 47 = .ok (.ifCond .eq 21, 3) := by decide +kernel
theorem dX7_children_50 : decode cX7_children 50 = .ok (.aload_n 0, 1) := by decide +kernel
theorem dX7_children_51 : decode cX7_children 51 = .ok (.getfield 20, 3) := by decide +kernel
theorem dX7_children_54 : decode cX7_children 54 = .ok (.iload 4, 2) := by decide +kernel
theorem dX7_children_56 : decode cX7_children 56 = .ok (.iaload, 1) := by decide +kernel
theorem dX7_children_57 : decode cX7_children 57 = .ok (.iload_n 2, 1) := by decide +kernel
theorem dX7_children_58 : decode cX7_children 58 = .ok (.if_icmp .ne 10, 3) := by decide +kernel
theorem dX7_children_61 : decode cX7_children 61 = .ok (.iconst 1, 1) := by decide +kernel
theorem dX7_children_62 : decode cX7_children 62 = .ok (.iload 4, 2) := by decide +kernel
theorem dX7_children_64 : decode cX7_children 64 = .ok (.ishl, 1) := by decide +kernel
theorem dX7_children_65 : decode cX7_children 65 = .ok (.goto 4, 3) := by decide +kernel
theorem dX7_children_68 : decode cX7_children 68 = .ok (.iconst 0, 1) := by decide +kernel
theorem dX7_children_69 : decode cX7_children 69 = .ok (.ior, 1) := by decide +kernel
theorem dX7_children_70 : decode cX7_children 70 = .ok (.istore_n 3, 1) := by decide +kernel
theorem dX7_children_71 : decode cX7_children 71 = .ok (.iinc 4 1, 3) := by decide +kernel
theorem dX7_children_74 : decode cX7_children 74 = .ok (.goto (-49), 3) := by decide +kernel
theorem dX7_children_77 : decode cX7_children 77 = .ok (.iload_n 3, 1) := by decide +kernel
theorem dX7_children_78 : decode cX7_children 78 = .ok (.ireturn, 1) := by decide +kernel
theorem dX7_isKind_0 : decode cX7_isKind 0 = .ok (.iload_n 0, 1) := by decide +kernel
theorem dX7_isKind_1 : decode cX7_isKind 1 = .ok (.ifCond .lt 13, 3) := by decide +kernel
theorem dX7_isKind_4 : decode cX7_isKind 4 = .ok (.iload_n 0, 1) := by decide +kernel
theorem dX7_isKind_5 : decode cX7_isKind 5 = .ok (.bipush 6, 2) := by decide +kernel
theorem dX7_isKind_7 : decode cX7_isKind 7 = .ok (.if_icmp .ge 7, 3) := by decide +kernel
theorem dX7_isKind_10 : decode cX7_isKind 10 = .ok (.iconst 1, 1) := by decide +kernel
theorem dX7_isKind_11 : decode cX7_isKind 11 = .ok (.goto 4, 3) := by decide +kernel
theorem dX7_isKind_14 : decode cX7_isKind 14 = .ok (.iconst 0, 1) := by decide +kernel
theorem dX7_isKind_15 : decode cX7_isKind 15 = .ok (.ireturn, 1) := by decide +kernel
set_option maxRecDepth 20000 in
theorem ggX7_asks_X7_slotOf : GoodIn wsX7_asks wsX7_slotOf := goodIn_r _ [6, 7, 8, 17, 18, 19, 20, 21, 22, 23, 24, 25, 26, 27, 28, 29, 30, 31, 32, 33, 34, 35, 36, 37, 38, 39, 40, 41, 42, 43, 44, 45, 46, 47] (by decide +kernel) (by decide +kernel)
set_option maxRecDepth 20000 in
theorem gX7_asks_X7_slotOf : GoodIn wsX7_asks (wsV RX7 113 RX7 yX7_slotOf wsX7_slotOf) := goodIn_app (goodIn_of _ (by decide +kernel)) ggX7_asks_X7_slotOf
set_option maxRecDepth 20000 in
theorem ggX7_asks_X7_isKind : GoodIn wsX7_asks wsX7_isKind := goodIn_r _ [11] (by decide +kernel) (by decide +kernel)
set_option maxRecDepth 20000 in
theorem gX7_asks_X7_isKind : GoodIn wsX7_asks (va_wsS RX7 123 yX7_isKind wsX7_isKind) := goodIn_app (goodIn_of _ (by decide +kernel)) ggX7_asks_X7_isKind
set_option maxRecDepth 20000 in
theorem ggX7_asks_X7_has : GoodIn wsX7_asks wsX7_has := goodIn_r _ [15, 16, 17, 18, 19, 20, 21, 22, 23, 24, 25, 26, 27, 28, 29, 30, 31, 32, 33, 34, 35, 36, 37, 38, 39, 40, 41, 42, 43, 44, 45, 46, 47] (by decide +kernel) (by decide +kernel)
set_option maxRecDepth 20000 in
theorem gX7_asks_X7_has : GoodIn wsX7_asks (wsV RX7 127 RX7 yX7_has wsX7_has) := goodIn_app (goodIn_of _ (by decide +kernel)) ggX7_asks_X7_has
theorem dX7_asks_0 : decode cX7_asks 0 = .ok (.aload_n 0, 1) := by decide +kernel
theorem dX7_asks_1 : decode cX7_asks 1 = .ok (.iload_n 1, 1) := by decide +kernel
theorem dX7_asks_2 : decode cX7_asks 2 = .ok (.invokevirtual 113, 3) := by decide +kernel
theorem dX7_asks_5 : decode cX7_asks 5 = .ok (.istore_n 3, 1) := by decide +kernel
theorem dX7_asks_6 : decode cX7_asks 6 = .ok (.aload_n 0, 1) := by decide +kernel
theorem dX7_asks_7 : decode cX7_asks 7 = .ok (.iload_n 3, 1) := by decide +kernel
theorem dX7_asks_8 : decode cX7_asks 8 = .ok (.iconst (-1), 1) := by decide +kernel
theorem dX7_asks_9 : decode cX7_asks 9 = .ok (.if_icmp .ne 7, 3) := by decide +kernel
theorem dX7_asks_12 : decode cX7_asks 12 = .ok (.iconst 1, 1) := by decide +kernel
theorem dX7_asks_13 : decode cX7_asks 13 = .ok (.goto 28, 3) := by decide +kernel
theorem dX7_asks_16 : decode cX7_asks 16 = .ok (.iload_n 2, 1) := by decide +kernel
theorem dX7_asks_17 : decode cX7_asks 17 = .ok (.invokestatic 123, 3) := by decide +kernel
theorem dX7_asks_20 : decode cX7_asks 20 = .ok (.ifCond .ne 7, 3) := by decide +kernel
theorem dX7_asks_23 : decode cX7_asks 23 = .ok (.iconst 2, 1) := by decide +kernel
theorem dX7_asks_24 : decode cX7_asks 24 = .ok (.goto 17, 3) := by decide +kernel
theorem dX7_asks_27 : decode cX7_asks 27 = .ok (.aload_n 0, 1) := by decide +kernel
theorem dX7_asks_28 : decode cX7_asks 28 = .ok (.iload_n 3, 1) := by decide +kernel
theorem dX7_asks_29 : decode cX7_asks 29 = .ok (.iload_n 2, 1) := by decide +kernel
theorem dX7_asks_30 : decode cX7_asks 30 = .ok (.invokevirtual 127, 3) := by decide +kernel
theorem dX7_asks_33 : decode cX7_asks 33 = .ok (.ifCond .ne 7, 3) := by decide +kernel
theorem dX7_asks_36 : decode cX7_asks 36 = .ok (.iconst 3, 1) := by decide +kernel
theorem dX7_asks_37 : decode cX7_asks 37 = .ok (.goto 4, 3) := by decide +kernel
theorem dX7_asks_40 : decode cX7_asks 40 = .ok (.iconst 0, 1) := by decide +kernel
theorem dX7_asks_41 : decode cX7_asks 41 = .ok (.putfield 77, 3) := by decide +kernel
theorem dX7_asks_44 : decode cX7_asks 44 = .ok (.aload_n 0, 1) := by decide +kernel
theorem dX7_asks_45 : decode cX7_asks 45 = .ok (.getfield 77, 3) := by decide +kernel
theorem dX7_asks_48 : decode cX7_asks 48 = .ok (.ifCond .le 7, 3) := by decide +kernel
theorem dX7_asks_51 : decode cX7_asks 51 = .ok (.iconst 0, 1) := by decide +kernel
theorem dX7_asks_52 : decode cX7_asks 52 = .ok (.goto 9, 3) := by decide +kernel
theorem dX7_asks_55 : decode cX7_asks 55 = .ok (.bipush 6, 2) := by decide +kernel
theorem dX7_asks_57 : decode cX7_asks 57 = .ok (.iload_n 3, 1) := by decide +kernel
theorem dX7_asks_58 : decode cX7_asks 58 = .ok (.imul, 1) := by decide +kernel
theorem dX7_asks_59 : decode cX7_asks 59 = .ok (.iload_n 2, 1) := by decide +kernel
theorem dX7_asks_60 : decode cX7_asks 60 = .ok (.iadd, 1) := by decide +kernel
theorem dX7_asks_61 : decode cX7_asks 61 = .ok (.ireturn, 1) := by decide +kernel
set_option maxRecDepth 20000 in
theorem ggX7_whyNotAdd_X7_slotOf : GoodIn wsX7_whyNotAdd wsX7_slotOf := goodIn_r _ [6, 7, 8, 17, 18, 19, 20, 21, 22, 23, 24, 25, 26, 27, 28, 29, 30, 31, 32, 33, 34, 35, 36, 37, 38, 39, 40, 41, 42, 43, 44, 45, 46, 47] (by decide +kernel) (by decide +kernel)
set_option maxRecDepth 20000 in
theorem gX7_whyNotAdd_X7_slotOf : GoodIn wsX7_whyNotAdd (wsV RX7 113 RX7 yX7_slotOf wsX7_slotOf) := goodIn_app (goodIn_of _ (by decide +kernel)) ggX7_whyNotAdd_X7_slotOf
set_option maxRecDepth 20000 in
theorem ggX7_whyNotAdd_X7_isKind : GoodIn wsX7_whyNotAdd wsX7_isKind := goodIn_r _ [11] (by decide +kernel) (by decide +kernel)
set_option maxRecDepth 20000 in
theorem gX7_whyNotAdd_X7_isKind : GoodIn wsX7_whyNotAdd (va_wsS RX7 123 yX7_isKind wsX7_isKind) := goodIn_app (goodIn_of _ (by decide +kernel)) ggX7_whyNotAdd_X7_isKind
set_option maxRecDepth 20000 in
theorem ggX7_whyNotAdd_X7_has : GoodIn wsX7_whyNotAdd wsX7_has := goodIn_r _ [15, 16, 17, 18, 19, 20, 21, 22, 23, 24, 25, 26, 27, 28, 29, 30, 31, 32, 33, 34, 35, 36, 37, 38, 39, 40, 41, 42, 43, 44, 45, 46, 47] (by decide +kernel) (by decide +kernel)
set_option maxRecDepth 20000 in
theorem gX7_whyNotAdd_X7_has : GoodIn wsX7_whyNotAdd (wsV RX7 127 RX7 yX7_has wsX7_has) := goodIn_app (goodIn_of _ (by decide +kernel)) ggX7_whyNotAdd_X7_has
theorem dX7_whyNotAdd_0 : decode cX7_whyNotAdd 0 = .ok (.aload_n 0, 1) := by decide +kernel
theorem dX7_whyNotAdd_1 : decode cX7_whyNotAdd 1 = .ok (.iload_n 1, 1) := by decide +kernel
theorem dX7_whyNotAdd_2 : decode cX7_whyNotAdd 2 = .ok (.invokevirtual 113, 3) := by decide +kernel
theorem dX7_whyNotAdd_5 : decode cX7_whyNotAdd 5 = .ok (.istore_n 3, 1) := by decide +kernel
theorem dX7_whyNotAdd_6 : decode cX7_whyNotAdd 6 = .ok (.iload_n 3, 1) := by decide +kernel
theorem dX7_whyNotAdd_7 : decode cX7_whyNotAdd 7 = .ok (.iconst (-1), 1) := by decide +kernel
theorem dX7_whyNotAdd_8 : decode cX7_whyNotAdd 8 = .ok (.if_icmp .ne 7, 3) := by decide +kernel
theorem dX7_whyNotAdd_11 : decode cX7_whyNotAdd 11 = .ok (.iconst 1, 1) := by decide +kernel
theorem dX7_whyNotAdd_12 : decode cX7_whyNotAdd 12 = .ok (.goto 35, 3) := by decide +kernel
theorem dX7_whyNotAdd_15 : decode cX7_whyNotAdd 15 = .ok (.iload_n 2, 1) := by decide +kernel
theorem dX7_whyNotAdd_16 : decode cX7_whyNotAdd 16 = .ok (.invokestatic 123, 3) := by decide +kernel
theorem dX7_whyNotAdd_19 : decode cX7_whyNotAdd 19 = .ok (.ifCond .ne 7, 3) := by decide +kernel
theorem dX7_whyNotAdd_22 : decode cX7_whyNotAdd 22 = .ok (.iconst 2, 1) := by decide +kernel
theorem dX7_whyNotAdd_23 : decode cX7_whyNotAdd 23 = .ok (.goto 24, 3) := by decide +kernel
theorem dX7_whyNotAdd_26 : decode cX7_whyNotAdd 26 = .ok (.aload_n 0, 1) := by decide +kernel
theorem dX7_whyNotAdd_27 : decode cX7_whyNotAdd 27 = .ok (.iload_n 3, 1) := by decide +kernel
theorem dX7_whyNotAdd_28 : decode cX7_whyNotAdd 28 = .ok (.iload_n 2, 1) := by decide +kernel
theorem dX7_whyNotAdd_29 : decode cX7_whyNotAdd 29 = .ok (.invokevirtual 127, 3) := by decide +kernel
theorem dX7_whyNotAdd_32 : decode cX7_whyNotAdd 32 = .ok (.ifCond .ne 10, 3) := by decide +kernel
theorem dX7_whyNotAdd_35 : decode cX7_whyNotAdd 35 = .ok (.aload_n 0, 1) := by decide +kernel
theorem dX7_whyNotAdd_36 : decode cX7_whyNotAdd 36 = .ok (.getfield 102, 3) := by decide +kernel
theorem dX7_whyNotAdd_39 : decode cX7_whyNotAdd 39 = .ok (.ifCond .eq 7, 3) := by decide +kernel
theorem dX7_whyNotAdd_42 : decode cX7_whyNotAdd 42 = .ok (.iconst 3, 1) := by decide +kernel
theorem dX7_whyNotAdd_43 : decode cX7_whyNotAdd 43 = .ok (.goto 4, 3) := by decide +kernel
theorem dX7_whyNotAdd_46 : decode cX7_whyNotAdd 46 = .ok (.iconst 0, 1) := by decide +kernel
theorem dX7_whyNotAdd_47 : decode cX7_whyNotAdd 47 = .ok (.ireturn, 1) := by decide +kernel
set_option maxRecDepth 20000 in
theorem ggX7_add_X7_whyNotAdd : GoodIn wsX7_add wsX7_whyNotAdd := goodIn_r _ [7, 8, 9, 10, 11, 6, 12, 13, 14, 15, 16, 17, 18, 19, 20, 21, 2, 46, 47, 48, 49, 50, 51, 52, 53, 54, 55, 56, 57, 58, 59, 60, 61, 62, 63, 64, 65, 66, 67, 68, 69, 70, 71, 72, 73, 74, 75, 76] (by decide +kernel) (by decide +kernel)
set_option maxRecDepth 20000 in
theorem gX7_add_X7_whyNotAdd : GoodIn wsX7_add (wsV RX7 130 RX7 yX7_whyNotAdd wsX7_whyNotAdd) := goodIn_app (goodIn_of _ (by decide +kernel)) ggX7_add_X7_whyNotAdd
set_option maxRecDepth 20000 in
theorem ggX7_add_X7_slotOf : GoodIn wsX7_add wsX7_slotOf := goodIn_r _ [12, 13, 14, 46, 47, 48, 49, 50, 51, 52, 53, 54, 55, 56, 57, 58, 59, 60, 61, 62, 63, 64, 65, 66, 67, 68, 69, 70, 71, 72, 73, 74, 75, 76] (by decide +kernel) (by decide +kernel)
set_option maxRecDepth 20000 in
theorem gX7_add_X7_slotOf : GoodIn wsX7_add (wsV RX7 113 RX7 yX7_slotOf wsX7_slotOf) := goodIn_app (goodIn_of _ (by decide +kernel)) ggX7_add_X7_slotOf
set_option maxRecDepth 20000 in
theorem ggX7_add_X7_adds : GoodIn wsX7_add wsX7_adds := goodIn_r _ [25, 26, 27, 28, 2, 29, 30, 31, 6, 32, 33, 34, 35, 36, 37, 38, 39, 40, 41, 42, 43, 44, 45, 46, 47, 48, 49, 50, 51, 52, 53, 54, 55, 56, 57, 58, 59, 60, 61, 62, 63, 64, 65, 66, 67, 68, 69, 70, 71, 72, 73, 74, 75, 76] (by decide +kernel) (by decide +kernel)
set_option maxRecDepth 20000 in
theorem gX7_add_X7_adds : GoodIn wsX7_add (wsV RX7 134 RX7 yX7_adds wsX7_adds) := goodIn_app (goodIn_of _ (by decide +kernel)) ggX7_add_X7_adds
theorem dX7_add_0 : decode cX7_add 0 = .ok (.aload_n 0, 1) := by decide +kernel
theorem dX7_add_1 : decode cX7_add 1 = .ok (.aload_n 0, 1) := by decide +kernel
theorem dX7_add_2 : decode cX7_add 2 = .ok (.iload_n 1, 1) := by decide +kernel
theorem dX7_add_3 : decode cX7_add 3 = .ok (.iload_n 2, 1) := by decide +kernel
theorem dX7_add_4 : decode cX7_add 4 = .ok (.invokevirtual 130, 3) := by decide +kernel
theorem dX7_add_7 : decode cX7_add 7 = .ok (.putfield 77, 3) := by decide +kernel
theorem dX7_add_10 : decode cX7_add 10 = .ok (.aload_n 0, 1) := by decide +kernel
theorem dX7_add_11 : decode cX7_add 11 = .ok (.getfield 77, 3) := by decide +kernel
theorem dX7_add_14 : decode cX7_add 14 = .ok (.ifCond .le 5, 3) := by decide +kernel
theorem dX7_add_17 : decode cX7_add 17 = .ok (.iconst 0, 1) := by decide +kernel
theorem dX7_add_18 : decode cX7_add 18 = .ok (.ireturn, 1) := by decide +kernel
theorem dX7_add_19 : decode cX7_add 19 = .ok (.aload_n 0, 1) := by decide +kernel
theorem dX7_add_20 : decode cX7_add 20 = .ok (.iload_n 1, 1) := by decide +kernel
theorem dX7_add_21 : decode cX7_add 21 = .ok (.invokevirtual 113, 3) := by decide +kernel
theorem dX7_add_24 : decode cX7_add 24 = .ok (.istore 4, 2) := by decide +kernel
theorem dX7_add_26 : decode cX7_add 26 = .ok (.aload_n 0, 1) := by decide +kernel
theorem dX7_add_27 : decode cX7_add 27 = .ok (.iload 4, 2) := by decide +kernel
theorem dX7_add_29 : decode cX7_add 29 = .ok (.iload_n 2, 1) := by decide +kernel
theorem dX7_add_30 : decode cX7_add 30 = .ok (.iload_n 3, 1) := by decide +kernel
theorem dX7_add_31 : decode cX7_add 31 = .ok (.invokevirtual 134, 3) := by decide +kernel
theorem dX7_add_34 : decode cX7_add 34 = .ok (.aload_n 0, 1) := by decide +kernel
theorem dX7_add_35 : decode cX7_add 35 = .ok (.getfield 17, 3) := by decide +kernel
theorem dX7_add_38 : decode cX7_add 38 = .ok (.iload 4, 2) := by decide +kernel
theorem dX7_add_40 : decode cX7_add 40 = .ok (.iaload, 1) := by decide +kernel
theorem dX7_add_41 : decode cX7_add 41 = .ok (.ireturn, 1) := by decide +kernel
set_option maxRecDepth 20000 in
theorem ggX7_take_X7_asks : GoodIn wsX7_take wsX7_asks := goodIn_r _ [9, 1, 10, 11, 12, 8, 13, 14, 15, 16, 17, 18, 19, 20, 21, 22, 3, 40, 41, 42, 43, 44, 45, 46, 47, 48, 49, 50, 51, 52, 53, 54, 55, 56, 57, 58, 59, 60, 61, 62, 63, 64, 65, 66, 67, 68, 69, 70] (by decide +kernel) (by decide +kernel)
set_option maxRecDepth 20000 in
theorem gX7_take_X7_asks : GoodIn wsX7_take (wsV RX7 138 RX7 yX7_asks wsX7_asks) := goodIn_app (goodIn_of _ (by decide +kernel)) ggX7_take_X7_asks
set_option maxRecDepth 20000 in
theorem ggX7_take_X7_slotOf : GoodIn wsX7_take wsX7_slotOf := goodIn_r _ [13, 14, 15, 40, 41, 42, 43, 44, 45, 46, 47, 48, 49, 50, 51, 52, 53, 54, 55, 56, 57, 58, 59, 60, 61, 62, 63, 64, 65, 66, 67, 68, 69, 70] (by decide +kernel) (by decide +kernel)
set_option maxRecDepth 20000 in
theorem gX7_take_X7_slotOf : GoodIn wsX7_take (wsV RX7 113 RX7 yX7_slotOf wsX7_slotOf) := goodIn_app (goodIn_of _ (by decide +kernel)) ggX7_take_X7_slotOf
set_option maxRecDepth 20000 in
theorem ggX7_take_X7_becomes : GoodIn wsX7_take wsX7_becomes := goodIn_r _ [26, 3, 27, 28, 29, 8, 30, 31, 32, 33, 34, 35, 36, 37, 38, 39, 40, 41, 42, 43, 44, 45, 46, 47, 48, 49, 50, 51, 52, 53, 54, 55, 56, 57, 58, 59, 60, 61, 62, 63, 64, 65, 66, 67, 68, 69, 70] (by decide +kernel) (by decide +kernel)
set_option maxRecDepth 20000 in
theorem gX7_take_X7_becomes : GoodIn wsX7_take (wsV RX7 98 RX7 yX7_becomes wsX7_becomes) := goodIn_app (goodIn_of _ (by decide +kernel)) ggX7_take_X7_becomes
theorem dX7_take_0 : decode cX7_take 0 = .ok (.aload_n 0, 1) := by decide +kernel
theorem dX7_take_1 : decode cX7_take 1 = .ok (.iload_n 1, 1) := by decide +kernel
theorem dX7_take_2 : decode cX7_take 2 = .ok (.iload_n 2, 1) := by decide +kernel
theorem dX7_take_3 : decode cX7_take 3 = .ok (.invokevirtual 138, 3) := by decide +kernel
theorem dX7_take_6 : decode cX7_take 6 = .ok (.istore_n 3, 1) := by decide +kernel
theorem dX7_take_7 : decode cX7_take 7 = .ok (.aload_n 0, 1) := by decide +kernel
theorem dX7_take_8 : decode cX7_take 8 = .ok (.aload_n 0, 1) := by decide +kernel
theorem dX7_take_9 : decode cX7_take 9 = .ok (.getfield 77, 3) := by decide +kernel
theorem dX7_take_12 : decode cX7_take 12 = .ok (.ifCond .ne 14, 3) := by decide +kernel
theorem dX7_take_15 : decode cX7_take 15 = .ok (.aload_n 0, 1) := by decide +kernel
theorem dX7_take_16 : decode cX7_take 16 = .ok (.getfield 102, 3) := by decide +kernel
theorem dX7_take_19 : decode cX7_take 19 = .ok (.ifCond .eq 7, 3) := by decide +kernel
theorem dX7_take_22 : decode cX7_take 22 = .ok (.iconst 3, 1) := by decide +kernel
theorem dX7_take_23 : decode cX7_take 23 = .ok (.goto 7, 3) := by decide +kernel
theorem dX7_take_26 : decode cX7_take 26 = .ok (.aload_n 0, 1) := by decide +kernel
theorem dX7_take_27 : decode cX7_take 27 = .ok (.getfield 77, 3) := by decide +kernel
theorem dX7_take_30 : decode cX7_take 30 = .ok (.putfield 77, 3) := by decide +kernel
theorem dX7_take_33 : decode cX7_take 33 = .ok (.aload_n 0, 1) := by decide +kernel
theorem dX7_take_34 : decode cX7_take 34 = .ok (.getfield 77, 3) := by decide +kernel
theorem dX7_take_37 : decode cX7_take 37 = .ok (.ifCond .le 5, 3) := by decide +kernel
theorem dX7_take_40 : decode cX7_take 40 = .ok (.iconst 0, 1) := by decide +kernel
theorem dX7_take_41 : decode cX7_take 41 = .ok (.ireturn, 1) := by decide +kernel
theorem dX7_take_42 : decode cX7_take 42 = .ok (.aload_n 0, 1) := by decide +kernel
theorem dX7_take_43 : decode cX7_take 43 = .ok (.iload_n 1, 1) := by decide +kernel
theorem dX7_take_44 : decode cX7_take 44 = .ok (.invokevirtual 113, 3) := by decide +kernel
theorem dX7_take_47 : decode cX7_take 47 = .ok (.istore 4, 2) := by decide +kernel
theorem dX7_take_49 : decode cX7_take 49 = .ok (.aload_n 0, 1) := by decide +kernel
theorem dX7_take_50 : decode cX7_take 50 = .ok (.iload 4, 2) := by decide +kernel
theorem dX7_take_52 : decode cX7_take 52 = .ok (.aload_n 0, 1) := by decide +kernel
theorem dX7_take_53 : decode cX7_take 53 = .ok (.getfield 17, 3) := by decide +kernel
theorem dX7_take_56 : decode cX7_take 56 = .ok (.iload 4, 2) := by decide +kernel
theorem dX7_take_58 : decode cX7_take 58 = .ok (.iaload, 1) := by decide +kernel
theorem dX7_take_59 : decode cX7_take 59 = .ok (.iconst 1, 1) := by decide +kernel
theorem dX7_take_60 : decode cX7_take 60 = .ok (.iload_n 2, 1) := by decide +kernel
theorem dX7_take_61 : decode cX7_take 61 = .ok (.ishl, 1) := by decide +kernel
theorem dX7_take_62 : decode cX7_take 62 = .ok (.iconst (-1), 1) := by decide +kernel
theorem dX7_take_63 : decode cX7_take 63 = .ok (.ixor, 1) := by decide +kernel
theorem dX7_take_64 : decode cX7_take 64 = .ok (.iand, 1) := by decide +kernel
theorem dX7_take_65 : decode cX7_take 65 = .ok (.invokevirtual 98, 3) := by decide +kernel
theorem dX7_take_68 : decode cX7_take 68 = .ok (.aload_n 0, 1) := by decide +kernel
theorem dX7_take_69 : decode cX7_take 69 = .ok (.getfield 23, 3) := by decide +kernel
theorem dX7_take_72 : decode cX7_take 72 = .ok (.iload_n 3, 1) := by decide +kernel
theorem dX7_take_73 : decode cX7_take 73 = .ok (.iaload, 1) := by decide +kernel
theorem dX7_take_74 : decode cX7_take 74 = .ok (.ireturn, 1) := by decide +kernel
set_option maxRecDepth 20000 in
theorem ggX7_set_X7_asks : GoodIn wsX7_set wsX7_asks := goodIn_r _ [9, 1, 10, 11, 12, 8, 13, 14, 15, 16, 17, 18, 19, 20, 21, 22, 23, 24, 25, 26, 27, 28, 29, 30, 31, 32, 33, 34, 35, 36, 37, 38, 39, 40, 41, 42, 43, 44, 45, 46, 47, 48, 49, 50, 51, 52, 53, 54] (by decide +kernel) (by decide +kernel)
set_option maxRecDepth 20000 in
theorem gX7_set_X7_asks : GoodIn wsX7_set (wsV RX7 138 RX7 yX7_asks wsX7_asks) := goodIn_app (goodIn_of _ (by decide +kernel)) ggX7_set_X7_asks
theorem dX7_set_0 : decode cX7_set 0 = .ok (.aload_n 0, 1) := by decide +kernel
theorem dX7_set_1 : decode cX7_set 1 = .ok (.iload_n 1, 1) := by decide +kernel
theorem dX7_set_2 : decode cX7_set 2 = .ok (.iload_n 2, 1) := by decide +kernel
theorem dX7_set_3 : decode cX7_set 3 = .ok (.invokevirtual 138, 3) := by decide +kernel
theorem dX7_set_6 : decode cX7_set 6 = .ok (.istore 4, 2) := by decide +kernel
theorem dX7_set_8 : decode cX7_set 8 = .ok (.aload_n 0, 1) := by decide +kernel
theorem dX7_set_9 : decode cX7_set 9 = .ok (.getfield 77, 3) := by decide +kernel
theorem dX7_set_12 : decode cX7_set 12 = .ok (.ifCond .le 5, 3) := by decide +kernel
theorem dX7_set_15 : decode cX7_set 15 = .ok (.iconst 0, 1) := by decide +kernel
theorem dX7_set_16 : decode cX7_set 16 = .ok (.ireturn, 1) := by decide +kernel
theorem dX7_set_17 : decode cX7_set 17 = .ok (.aload_n 0, 1) := by decide +kernel
theorem dX7_set_18 : decode cX7_set 18 = .ok (.getfield 23, 3) := by decide +kernel
theorem dX7_set_21 : decode cX7_set 21 = .ok (.iload 4, 2) := by decide +kernel
theorem dX7_set_23 : decode cX7_set 23 = .ok (.iaload, 1) := by decide +kernel
theorem dX7_set_24 : decode cX7_set 24 = .ok (.istore 5, 2) := by decide +kernel
theorem dX7_set_26 : decode cX7_set 26 = .ok (.aload_n 0, 1) := by decide +kernel
theorem dX7_set_27 : decode cX7_set 27 = .ok (.getfield 23, 3) := by decide +kernel
theorem dX7_set_30 : decode cX7_set 30 = .ok (.iload 4, 2) := by decide +kernel
theorem dX7_set_32 : decode cX7_set 32 = .ok (.iload_n 3, 1) := by decide +kernel
theorem dX7_set_33 : decode cX7_set 33 = .ok (.iastore, 1) := by decide +kernel
theorem dX7_set_34 : decode cX7_set 34 = .ok (.aload_n 0, 1) := by decide +kernel
theorem dX7_set_35 : decode cX7_set 35 = .ok (.getfield 26, 3) := by decide +kernel
theorem dX7_set_38 : decode cX7_set 38 = .ok (.iload 4, 2) := by decide +kernel
theorem dX7_set_40 : decode cX7_set 40 = .ok (.aload_n 0, 1) := by decide +kernel
theorem dX7_set_41 : decode cX7_set 41 = .ok (.getfield 95, 3) := by decide +kernel
theorem dX7_set_44 : decode cX7_set 44 = .ok (.iastore, 1) := by decide +kernel
theorem dX7_set_45 : decode cX7_set 45 = .ok (.iload 5, 2) := by decide +kernel
theorem dX7_set_47 : decode cX7_set 47 = .ok (.ireturn, 1) := by decide +kernel
set_option maxRecDepth 20000 in
theorem ggX7_value_X7_asks : GoodIn wsX7_value wsX7_asks := goodIn_r _ [7, 1, 8, 9, 10, 6, 11, 12, 13, 14, 15, 16, 17, 18, 19, 20, 21, 22, 23, 24, 25, 26, 27, 28, 29, 30, 31, 32, 33, 34, 35, 36, 37, 38, 39, 40, 41, 42, 43, 44, 45, 46, 47, 48, 49, 50, 51, 52] (by decide +kernel) (by decide +kernel)
set_option maxRecDepth 20000 in
theorem gX7_value_X7_asks : GoodIn wsX7_value (wsV RX7 138 RX7 yX7_asks wsX7_asks) := goodIn_app (goodIn_of _ (by decide +kernel)) ggX7_value_X7_asks
theorem dX7_value_0 : decode cX7_value 0 = .ok (.aload_n 0, 1) := by decide +kernel
theorem dX7_value_1 : decode cX7_value 1 = .ok (.iload_n 1, 1) := by decide +kernel
theorem dX7_value_2 : decode cX7_value 2 = .ok (.iload_n 2, 1) := by decide +kernel
theorem dX7_value_3 : decode cX7_value 3 = .ok (.invokevirtual 138, 3) := by decide +kernel
theorem dX7_value_6 : decode cX7_value 6 = .ok (.istore_n 3, 1) := by decide +kernel
theorem dX7_value_7 : decode cX7_value 7 = .ok (.aload_n 0, 1) := by decide +kernel
theorem dX7_value_8 : decode cX7_value 8 = .ok (.getfield 77, 3) := by decide +kernel
theorem dX7_value_11 : decode cX7_value 11 = .ok (.ifCond .le 7, 3) := by decide +kernel
theorem dX7_value_14 : decode cX7_value 14 = .ok (.iconst 0, 1) := by decide +kernel
theorem dX7_value_15 : decode cX7_value 15 = .ok (.goto 9, 3) := by decide +kernel
theorem dX7_value_18 : decode cX7_value 18 = .ok (.aload_n 0, 1) := by decide +kernel
theorem dX7_value_19 : decode cX7_value 19 = .ok (.getfield 23, 3) := by decide +kernel
theorem dX7_value_22 : decode cX7_value 22 = .ok (.iload_n 3, 1) := by decide +kernel
theorem dX7_value_23 : decode cX7_value 23 = .ok (.iaload, 1) := by decide +kernel
theorem dX7_value_24 : decode cX7_value 24 = .ok (.ireturn, 1) := by decide +kernel
set_option maxRecDepth 20000 in
theorem ggX7_mark_X7_asks : GoodIn wsX7_mark wsX7_asks := goodIn_r _ [7, 1, 8, 9, 10, 6, 11, 12, 13, 14, 15, 16, 17, 18, 19, 20, 21, 22, 23, 24, 25, 26, 27, 28, 29, 30, 31, 32, 33, 34, 35, 36, 37, 38, 39, 40, 41, 42, 43, 44, 45, 46, 47, 48, 49, 50, 51, 52] (by decide +kernel) (by decide +kernel)
set_option maxRecDepth 20000 in
theorem gX7_mark_X7_asks : GoodIn wsX7_mark (wsV RX7 138 RX7 yX7_asks wsX7_asks) := goodIn_app (goodIn_of _ (by decide +kernel)) ggX7_mark_X7_asks
theorem dX7_mark_0 : decode cX7_mark 0 = .ok (.aload_n 0, 1) := by decide +kernel
theorem dX7_mark_1 : decode cX7_mark 1 = .ok (.iload_n 1, 1) := by decide +kernel
theorem dX7_mark_2 : decode cX7_mark 2 = .ok (.iload_n 2, 1) := by decide +kernel
theorem dX7_mark_3 : decode cX7_mark 3 = .ok (.invokevirtual 138, 3) := by decide +kernel
theorem dX7_mark_6 : decode cX7_mark 6 = .ok (.istore_n 3, 1) := by decide +kernel
theorem dX7_mark_7 : decode cX7_mark 7 = .ok (.aload_n 0, 1) := by decide +kernel
theorem dX7_mark_8 : decode cX7_mark 8 = .ok (.getfield 77, 3) := by decide +kernel
theorem dX7_mark_11 : decode cX7_mark 11 = .ok (.ifCond .le 7, 3) := by decide +kernel
theorem dX7_mark_14 : decode cX7_mark 14 = .ok (.iconst 0, 1) := by decide +kernel
theorem dX7_mark_15 : decode cX7_mark 15 = .ok (.goto 9, 3) := by decide +kernel
theorem dX7_mark_18 : decode cX7_mark 18 = .ok (.aload_n 0, 1) := by decide +kernel
theorem dX7_mark_19 : decode cX7_mark 19 = .ok (.getfield 26, 3) := by decide +kernel
theorem dX7_mark_22 : decode cX7_mark 22 = .ok (.iload_n 3, 1) := by decide +kernel
theorem dX7_mark_23 : decode cX7_mark 23 = .ok (.iaload, 1) := by decide +kernel
theorem dX7_mark_24 : decode cX7_mark 24 = .ok (.ireturn, 1) := by decide +kernel
set_option maxRecDepth 20000 in
theorem ggX7_kinds_X7_slotOf : GoodIn wsX7_kinds wsX7_slotOf := goodIn_r _ [7, 8, 9, 10, 11, 12, 13, 14, 15, 16, 17, 18, 19, 20, 21, 22, 23, 24, 25, 26, 27, 28, 29, 30, 31, 32, 33, 34, 35, 36, 37, 38, 39, 40] (by decide +kernel) (by decide +kernel)
set_option maxRecDepth 20000 in
theorem gX7_kinds_X7_slotOf : GoodIn wsX7_kinds (wsV RX7 113 RX7 yX7_slotOf wsX7_slotOf) := goodIn_app (goodIn_of _ (by decide +kernel)) ggX7_kinds_X7_slotOf
theorem dX7_kinds_0 : decode cX7_kinds 0 = .ok (.aload_n 0, 1) := by decide +kernel
theorem dX7_kinds_1 : decode cX7_kinds 1 = .ok (.iload_n 1, 1) := by decide +kernel
theorem dX7_kinds_2 : decode cX7_kinds 2 = .ok (.invokevirtual 113, 3) := by decide +kernel
theorem dX7_kinds_5 : decode cX7_kinds 5 = .ok (.istore_n 2, 1) := by decide +kernel
theorem dX7_kinds_6 : decode cX7_kinds 6 = .ok (.aload_n 0, 1) := by decide +kernel
theorem dX7_kinds_7 : decode cX7_kinds 7 = .ok (.iload_n 2, 1) := by decide +kernel
theorem dX7_kinds_8 : decode cX7_kinds 8 = .ok (.iconst (-1), 1) := by decide +kernel
theorem dX7_kinds_9 : decode cX7_kinds 9 = .ok (.if_icmp .ne 7, 3) := by decide +kernel
theorem dX7_kinds_12 : decode cX7_kinds 12 = .ok (.iconst 1, 1) := by decide +kernel
theorem dX7_kinds_13 : decode cX7_kinds 13 = .ok (.goto 4, 3) := by decide +kernel
theorem dX7_kinds_16 : decode cX7_kinds 16 = .ok (.iconst 0, 1) := by decide +kernel
theorem dX7_kinds_17 : decode cX7_kinds 17 = .ok (.putfield 77, 3) := by decide +kernel
theorem dX7_kinds_20 : decode cX7_kinds 20 = .ok (.aload_n 0, 1) := by decide +kernel
theorem dX7_kinds_21 : decode cX7_kinds 21 = .ok (.getfield 77, 3) := by decide +kernel
theorem dX7_kinds_24 : decode cX7_kinds 24 = .ok (.ifCond .le 7, 3) := by decide +kernel
theorem dX7_kinds_27 : decode cX7_kinds 27 = .ok (.iconst 0, 1) := by decide +kernel
theorem dX7_kinds_28 : decode cX7_kinds 28 = .ok (.goto 9, 3) := by decide +kernel
theorem dX7_kinds_31 : decode cX7_kinds 31 = .ok (.aload_n 0, 1) := by decide +kernel
theorem dX7_kinds_32 : decode cX7_kinds 32 = .ok (.getfield 17, 3) := by decide +kernel
theorem dX7_kinds_35 : decode cX7_kinds 35 = .ok (.iload_n 2, 1) := by decide +kernel
theorem dX7_kinds_36 : decode cX7_kinds 36 = .ok (.iaload, 1) := by decide +kernel
theorem dX7_kinds_37 : decode cX7_kinds 37 = .ok (.ireturn, 1) := by decide +kernel
theorem dX7_isIn_0 : decode cX7_isIn 0 = .ok (.iload_n 1, 1) := by decide +kernel
theorem dX7_isIn_1 : decode cX7_isIn 1 = .ok (.ifCond .lt 12, 3) := by decide +kernel
theorem dX7_isIn_4 : decode cX7_isIn 4 = .ok (.iload_n 1, 1) := by decide +kernel
theorem dX7_isIn_5 : decode cX7_isIn 5 = .ok (.iload_n 2, 1) := by decide +kernel
theorem dX7_isIn_6 : decode cX7_isIn 6 = .ok (.if_icmp .ge 7, 3) := by decide +kernel
theorem dX7_isIn_9 : decode cX7_isIn 9 = .ok (.iconst 1, 1) := by decide +kernel
theorem dX7_isIn_10 : decode cX7_isIn 10 = .ok (.goto 4, 3) := by decide +kernel
theorem dX7_isIn_13 : decode cX7_isIn 13 = .ok (.iconst 0, 1) := by decide +kernel
theorem dX7_isIn_14 : decode cX7_isIn 14 = .ok (.istore_n 3, 1) := by decide +kernel
theorem dX7_isIn_15 : decode cX7_isIn 15 = .ok (.aload_n 0, 1) := by decide +kernel
theorem dX7_isIn_16 : decode cX7_isIn 16 = .ok (.iload_n 3, 1) := by decide +kernel
theorem dX7_isIn_17 : decode cX7_isIn 17 = .ok (.ifCond .eq 7, 3) := by decide +kernel
theorem dX7_isIn_20 : decode cX7_isIn 20 = .ok (.iconst 0, 1) := by decide +kernel
theorem dX7_isIn_21 : decode cX7_isIn 21 = .ok (.goto 4, 3) := by decide +kernel
theorem dX7_isIn_24 : decode cX7_isIn 24 = .ok (.iconst 1, 1) := by decide +kernel
theorem dX7_isIn_25 : decode cX7_isIn 25 = .ok (.putfield 77, 3) := by decide +kernel
theorem dX7_isIn_28 : decode cX7_isIn 28 = .ok (.iload_n 3, 1) := by decide +kernel
theorem dX7_isIn_29 : decode cX7_isIn 29 = .ok (.ireturn, 1) := by decide +kernel
theorem dX7_rows_0 : decode cX7_rows 0 = .ok (.aload_n 0, 1) := by decide +kernel
theorem dX7_rows_1 : decode cX7_rows 1 = .ok (.iconst 0, 1) := by decide +kernel
theorem dX7_rows_2 : decode cX7_rows 2 = .ok (.putfield 77, 3) := by decide +kernel
theorem dX7_rows_5 : decode cX7_rows 5 = .ok (.aload_n 0, 1) := by decide +kernel
theorem dX7_rows_6 : decode cX7_rows 6 = .ok (.getfield 81, 3) := by decide +kernel
theorem dX7_rows_9 : decode cX7_rows 9 = .ok (.ireturn, 1) := by decide +kernel
set_option maxRecDepth 20000 in
theorem ggX7_setOf_X7_isIn : GoodIn wsX7_setOf wsX7_isIn := goodIn_r _ [7, 8, 9, 10, 11, 12, 13, 14, 15, 16, 17, 18, 19, 20, 21, 22, 23, 24, 25, 26, 27, 28, 29, 30, 31, 32, 33, 34, 35, 36, 37, 38, 39] (by decide +kernel) (by decide +kernel)
set_option maxRecDepth 20000 in
theorem gX7_setOf_X7_isIn : GoodIn wsX7_setOf (wsV RX7 141 RX7 yX7_isIn wsX7_isIn) := goodIn_app (goodIn_of _ (by decide +kernel)) ggX7_setOf_X7_isIn
theorem dX7_setOf_0 : decode cX7_setOf 0 = .ok (.aload_n 0, 1) := by decide +kernel
theorem dX7_setOf_1 : decode cX7_setOf 1 = .ok (.iload_n 1, 1) := by decide +kernel
theorem dX7_setOf_2 : decode cX7_setOf 2 = .ok (.aload_n 0, 1) := by decide +kernel
theorem dX7_setOf_3 : decode cX7_setOf 3 = .ok (.getfield 81, 3) := by decide +kernel
theorem dX7_setOf_6 : decode cX7_setOf 6 = .ok (.invokevirtual 141, 3) := by decide +kernel
theorem dX7_setOf_9 : decode cX7_setOf 9 = .ok (.ifCond .eq 12, 3) := by decide +kernel
theorem dX7_setOf_12 : decode cX7_setOf 12 = .ok (.aload_n 0, 1) := by decide +kernel
theorem dX7_setOf_13 : decode cX7_setOf 13 = .ok (.getfield 32, 3) := by decide +kernel
theorem dX7_setOf_16 : decode cX7_setOf 16 = .ok (.iload_n 1, 1) := by decide +kernel
theorem dX7_setOf_17 : decode cX7_setOf 17 = .ok (.iaload, 1) := by decide +kernel
theorem dX7_setOf_18 : decode cX7_setOf 18 = .ok (.goto 4, 3) := by decide +kernel
theorem dX7_setOf_21 : decode cX7_setOf 21 = .ok (.iconst 0, 1) := by decide +kernel
theorem dX7_setOf_22 : decode cX7_setOf 22 = .ok (.ireturn, 1) := by decide +kernel
set_option maxRecDepth 20000 in
theorem ggX7_size_X7_isIn : GoodIn wsX7_size wsX7_isIn := goodIn_r _ [7, 8, 9, 10, 11, 12, 13, 14, 15, 16, 17, 18, 19, 20, 21, 22, 23, 24, 25, 26, 27, 28, 29, 30, 31, 32, 33, 34, 35, 36, 37, 38, 39] (by decide +kernel) (by decide +kernel)
set_option maxRecDepth 20000 in
theorem gX7_size_X7_isIn : GoodIn wsX7_size (wsV RX7 141 RX7 yX7_isIn wsX7_isIn) := goodIn_app (goodIn_of _ (by decide +kernel)) ggX7_size_X7_isIn
theorem dX7_size_0 : decode cX7_size 0 = .ok (.aload_n 0, 1) := by decide +kernel
theorem dX7_size_1 : decode cX7_size 1 = .ok (.iload_n 1, 1) := by decide +kernel
theorem dX7_size_2 : decode cX7_size 2 = .ok (.aload_n 0, 1) := by decide +kernel
theorem dX7_size_3 : decode cX7_size 3 = .ok (.getfield 81, 3) := by decide +kernel
theorem dX7_size_6 : decode cX7_size 6 = .ok (.invokevirtual 141, 3) := by decide +kernel
theorem dX7_size_9 : decode cX7_size 9 = .ok (.ifCond .eq 12, 3) := by decide +kernel
theorem dX7_size_12 : decode cX7_size 12 = .ok (.aload_n 0, 1) := by decide +kernel
theorem dX7_size_13 : decode cX7_size 13 = .ok (.getfield 35, 3) := by decide +kernel
theorem dX7_size_16 : decode cX7_size 16 = .ok (.iload_n 1, 1) := by decide +kernel
theorem dX7_size_17 : decode cX7_size 17 = .ok (.iaload, 1) := by decide +kernel
theorem dX7_size_18 : decode cX7_size 18 = .ok (.goto 4, 3) := by decide +kernel
theorem dX7_size_21 : decode cX7_size 21 = .ok (.iconst 0, 1) := by decide +kernel
theorem dX7_size_22 : decode cX7_size 22 = .ok (.ireturn, 1) := by decide +kernel
set_option maxRecDepth 20000 in
theorem ggX7_entityAt_X7_isIn : GoodIn wsX7_entityAt wsX7_isIn := goodIn_r _ [8, 9, 15, 16, 17, 18, 19, 20, 21, 22, 23, 24, 25, 26, 27, 28, 29, 30, 31, 32, 33, 34, 35, 36, 37, 38, 39, 40, 41, 42, 43, 44, 45] (by decide +kernel) (by decide +kernel)
set_option maxRecDepth 20000 in
theorem gX7_entityAt_X7_isIn : GoodIn wsX7_entityAt (wsV RX7 141 RX7 yX7_isIn wsX7_isIn) := goodIn_app (goodIn_of _ (by decide +kernel)) ggX7_entityAt_X7_isIn
set_option maxRecDepth 20000 in
theorem ggX7_entityAt_X7_handleOf : GoodIn wsX7_entityAt wsX7_handleOf := goodIn_r _ [13, 14, 15, 16, 17, 18, 19, 20, 21, 22, 23, 24, 25, 26, 27, 28, 29, 30, 31, 32, 33, 34, 35, 36, 37, 38, 39, 40, 41, 42, 43, 44, 45] (by decide +kernel) (by decide +kernel)
set_option maxRecDepth 20000 in
theorem gX7_entityAt_X7_handleOf : GoodIn wsX7_entityAt (wsV RX7 109 RX7 yX7_handleOf wsX7_handleOf) := goodIn_app (goodIn_of _ (by decide +kernel)) ggX7_entityAt_X7_handleOf
theorem dX7_entityAt_0 : decode cX7_entityAt 0 = .ok (.aload_n 0, 1) := by decide +kernel
theorem dX7_entityAt_1 : decode cX7_entityAt 1 = .ok (.iload_n 1, 1) := by decide +kernel
theorem dX7_entityAt_2 : decode cX7_entityAt 2 = .ok (.aload_n 0, 1) := by decide +kernel
theorem dX7_entityAt_3 : decode cX7_entityAt 3 = .ok (.getfield 81, 3) := by decide +kernel
theorem dX7_entityAt_6 : decode cX7_entityAt 6 = .ok (.invokevirtual 141, 3) := by decide +kernel
theorem dX7_entityAt_9 : decode cX7_entityAt 9 = .ok (.ifCond .eq 35, 3) := by decide +kernel
theorem dX7_entityAt_12 : decode cX7_entityAt 12 = .ok (.aload_n 0, 1) := by decide +kernel
theorem dX7_entityAt_13 : decode cX7_entityAt 13 = .ok (.iload_n 2, 1) := by decide +kernel
theorem dX7_entityAt_14 : decode cX7_entityAt 14 = .ok (.aload_n 0, 1) := by decide +kernel
theorem dX7_entityAt_15 : decode cX7_entityAt 15 = .ok (.getfield 35, 3) := by decide +kernel
theorem dX7_entityAt_18 : decode cX7_entityAt 18 = .ok (.iload_n 1, 1) := by decide +kernel
theorem dX7_entityAt_19 : decode cX7_entityAt 19 = .ok (.iaload, 1) := by decide +kernel
theorem dX7_entityAt_20 : decode cX7_entityAt 20 = .ok (.invokevirtual 141, 3) := by decide +kernel
theorem dX7_entityAt_23 : decode cX7_entityAt 23 = .ok (.ifCond .eq 21, 3) := by decide +kernel
theorem dX7_entityAt_26 : decode cX7_entityAt 26 = .ok (.aload_n 0, 1) := by decide +kernel
theorem dX7_entityAt_27 : decode cX7_entityAt 27 = .ok (.aload_n 0, 1) := by decide +kernel
theorem dX7_entityAt_28 : decode cX7_entityAt 28 = .ok (.getfield 38, 3) := by decide +kernel
theorem dX7_entityAt_31 : decode cX7_entityAt 31 = .ok (.bipush 32, 2) := by decide +kernel
theorem dX7_entityAt_33 : decode cX7_entityAt 33 = .ok (.iload_n 1, 1) := by decide +kernel
theorem dX7_entityAt_34 : decode cX7_entityAt 34 = .ok (.imul, 1) := by decide +kernel
theorem dX7_entityAt_35 : decode cX7_entityAt 35 = .ok (.iload_n 2, 1) := by decide +kernel
theorem dX7_entityAt_36 : decode cX7_entityAt 36 = .ok (.iadd, 1) := by decide +kernel
theorem dX7_entityAt_37 : decode cX7_entityAt 37 = .ok (.iaload, 1) := by decide +kernel
theorem dX7_entityAt_38 : decode cX7_entityAt 38 = .ok (.invokevirtual 109, 3) := by decide +kernel
theorem dX7_entityAt_41 : decode cX7_entityAt 41 = .ok (.goto 4, 3) := by decide +kernel
theorem dX7_entityAt_44 : decode cX7_entityAt 44 = .ok (.iconst 0, 1) := by decide +kernel
theorem dX7_entityAt_45 : decode cX7_entityAt 45 = .ok (.ireturn, 1) := by decide +kernel
theorem dX7_isSet_0 : decode cX7_isSet 0 = .ok (.iload_n 0, 1) := by decide +kernel
theorem dX7_isSet_1 : decode cX7_isSet 1 = .ok (.ifCond .lt 13, 3) := by decide +kernel
theorem dX7_isSet_4 : decode cX7_isSet 4 = .ok (.iload_n 0, 1) := by decide +kernel
theorem dX7_isSet_5 : decode cX7_isSet 5 = .ok (.bipush 64, 2) := by decide +kernel
theorem dX7_isSet_7 : decode cX7_isSet 7 = .ok (.if_icmp .ge 7, 3) := by decide +kernel
theorem dX7_isSet_10 : decode cX7_isSet 10 = .ok (.iconst 1, 1) := by decide +kernel
theorem dX7_isSet_11 : decode cX7_isSet 11 = .ok (.goto 4, 3) := by decide +kernel
theorem dX7_isSet_14 : decode cX7_isSet 14 = .ok (.iconst 0, 1) := by decide +kernel
theorem dX7_isSet_15 : decode cX7_isSet 15 = .ok (.ireturn, 1) := by decide +kernel
set_option maxRecDepth 20000 in
theorem ggX7_question_X7_isSet : GoodIn wsX7_question wsX7_isSet := goodIn_r _ [9] (by decide +kernel) (by decide +kernel)
set_option maxRecDepth 20000 in
theorem gX7_question_X7_isSet : GoodIn wsX7_question (va_wsS RX7 144 yX7_isSet wsX7_isSet) := goodIn_app (goodIn_of _ (by decide +kernel)) ggX7_question_X7_isSet
theorem dX7_question_0 : decode cX7_question 0 = .ok (.aload_n 0, 1) := by decide +kernel
theorem dX7_question_1 : decode cX7_question 1 = .ok (.iload_n 1, 1) := by decide +kernel
theorem dX7_question_2 : decode cX7_question 2 = .ok (.invokestatic 144, 3) := by decide +kernel
theorem dX7_question_5 : decode cX7_question 5 = .ok (.ifCond .eq 17, 3) := by decide +kernel
theorem dX7_question_8 : decode cX7_question 8 = .ok (.iload_n 2, 1) := by decide +kernel
theorem dX7_question_9 : decode cX7_question 9 = .ok (.invokestatic 144, 3) := by decide +kernel
theorem dX7_question_12 : decode cX7_question 12 = .ok (.ifCond .eq 10, 3) := by decide +kernel
theorem dX7_question_15 : decode cX7_question 15 = .ok (.iload_n 3, 1) := by decide +kernel
theorem dX7_question_16 : decode cX7_question 16 = .ok (.invokestatic 144, 3) := by decide +kernel
theorem dX7_question_19 : decode cX7_question 19 = .ok (.ifCond .ne 7, 3) := by decide +kernel
theorem dX7_question_22 : decode cX7_question 22 = .ok (.iconst 1, 1) := by decide +kernel
theorem dX7_question_23 : decode cX7_question 23 = .ok (.goto 17, 3) := by decide +kernel
theorem dX7_question_26 : decode cX7_question 26 = .ok (.aload_n 0, 1) := by decide +kernel
theorem dX7_question_27 : decode cX7_question 27 = .ok (.getfield 147, 3) := by decide +kernel
theorem dX7_question_30 : decode cX7_question 30 = .ok (.bipush 8, 2) := by decide +kernel
theorem dX7_question_32 : decode cX7_question 32 = .ok (.if_icmp .ne 7, 3) := by decide +kernel
theorem dX7_question_35 : decode cX7_question 35 = .ok (.iconst 2, 1) := by decide +kernel
theorem dX7_question_36 : decode cX7_question 36 = .ok (.goto 4, 3) := by decide +kernel
theorem dX7_question_39 : decode cX7_question 39 = .ok (.iconst 0, 1) := by decide +kernel
theorem dX7_question_40 : decode cX7_question 40 = .ok (.putfield 77, 3) := by decide +kernel
theorem dX7_question_43 : decode cX7_question 43 = .ok (.aload_n 0, 1) := by decide +kernel
theorem dX7_question_44 : decode cX7_question 44 = .ok (.getfield 77, 3) := by decide +kernel
theorem dX7_question_47 : decode cX7_question 47 = .ok (.ifCond .le 5, 3) := by decide +kernel
theorem dX7_question_50 : decode cX7_question 50 = .ok (.iconst 0, 1) := by decide +kernel
theorem dX7_question_51 : decode cX7_question 51 = .ok (.ireturn, 1) := by decide +kernel
theorem dX7_question_52 : decode cX7_question 52 = .ok (.aload_n 0, 1) := by decide +kernel
theorem dX7_question_53 : decode cX7_question 53 = .ok (.getfield 41, 3) := by decide +kernel
theorem dX7_question_56 : decode cX7_question 56 = .ok (.aload_n 0, 1) := by decide +kernel
theorem dX7_question_57 : decode cX7_question 57 = .ok (.getfield 147, 3) := by decide +kernel
theorem dX7_question_60 : decode cX7_question 60 = .ok (.iload_n 1, 1) := by decide +kernel
theorem dX7_question_61 : decode cX7_question 61 = .ok (.iastore, 1) := by decide +kernel
theorem dX7_question_62 : decode cX7_question 62 = .ok (.aload_n 0, 1) := by decide +kernel
theorem dX7_question_63 : decode cX7_question 63 = .ok (.getfield 44, 3) := by decide +kernel
theorem dX7_question_66 : decode cX7_question 66 = .ok (.aload_n 0, 1) := by decide +kernel
theorem dX7_question_67 : decode cX7_question 67 = .ok (.getfield 147, 3) := by decide +kernel
theorem dX7_question_70 : decode cX7_question 70 = .ok (.iload_n 2, 1) := by decide +kernel
theorem dX7_question_71 : decode cX7_question 71 = .ok (.iastore, 1) := by decide +kernel
theorem dX7_question_72 : decode cX7_question 72 = .ok (.aload_n 0, 1) := by decide +kernel
theorem dX7_question_73 : decode cX7_question 73 = .ok (.getfield 47, 3) := by decide +kernel
theorem dX7_question_76 : decode cX7_question 76 = .ok (.aload_n 0, 1) := by decide +kernel
theorem dX7_question_77 : decode cX7_question 77 = .ok (.getfield 147, 3) := by decide +kernel
theorem dX7_question_80 : decode cX7_question 80 = .ok (.iload_n 3, 1) := by decide +kernel
theorem dX7_question_81 : decode cX7_question 81 = .ok (.iastore, 1) := by decide +kernel
theorem dX7_question_82 : decode cX7_question 82 = .ok (.aload_n 0, 1) := by decide +kernel
theorem dX7_question_83 : decode cX7_question 83 = .ok (.dup, 1) := by decide +kernel
theorem dX7_question_84 : decode cX7_question 84 = .ok (.getfield 147, 3) := by decide +kernel
theorem dX7_question_87 : decode cX7_question 87 = .ok (.iconst 1, 1) := by decide +kernel
theorem dX7_question_88 : decode cX7_question 88 = .ok (.iadd, 1) := by decide +kernel
theorem dX7_question_89 : decode cX7_question 89 = .ok (.putfield 147, 3) := by decide +kernel
theorem dX7_question_92 : decode cX7_question 92 = .ok (.aload_n 0, 1) := by decide +kernel
theorem dX7_question_93 : decode cX7_question 93 = .ok (.getfield 147, 3) := by decide +kernel
theorem dX7_question_96 : decode cX7_question 96 = .ok (.iconst 1, 1) := by decide +kernel
theorem dX7_question_97 : decode cX7_question 97 = .ok (.isub, 1) := by decide +kernel
theorem dX7_question_98 : decode cX7_question 98 = .ok (.ireturn, 1) := by decide +kernel
theorem dX7_answersBy_0 : decode cX7_answersBy 0 = .ok (.iload_n 2, 1) := by decide +kernel
theorem dX7_answersBy_1 : decode cX7_answersBy 1 = .ok (.aload_n 0, 1) := by decide +kernel
theorem dX7_answersBy_2 : decode cX7_answersBy 2 = .ok (.getfield 41, 3) := by decide +kernel
theorem dX7_answersBy_5 : decode cX7_answersBy 5 = .ok (.iload_n 1, 1) := by decide +kernel
theorem dX7_answersBy_6 : decode cX7_answersBy 6 = .ok (.iaload, 1) := by decide +kernel
theorem dX7_answersBy_7 : decode cX7_answersBy 7 = .ok (.iand, 1) := by decide +kernel
theorem dX7_answersBy_8 : decode cX7_answersBy 8 = .ok (.aload_n 0, 1) := by decide +kernel
theorem dX7_answersBy_9 : decode cX7_answersBy 9 = .ok (.getfield 41, 3) := by decide +kernel
theorem dX7_answersBy_12 : decode cX7_answersBy 12 = .ok (.iload_n 1, 1) := by decide +kernel
theorem dX7_answersBy_13 : decode cX7_answersBy 13 = .ok (.iaload, 1) := by decide +kernel
theorem dX7_answersBy_14 : decode cX7_answersBy 14 = .ok (.if_icmp .ne 38, 3) := by decide +kernel
theorem dX7_answersBy_17 : decode cX7_answersBy 17 = .ok (.iload_n 2, 1) := by decide +kernel
theorem dX7_answersBy_18 : decode cX7_answersBy 18 = .ok (.aload_n 0, 1) := by decide +kernel
theorem dX7_answersBy_19 : decode cX7_answersBy 19 = .ok (.getfield 44, 3) := by decide +kernel
theorem dX7_answersBy_22 : decode cX7_answersBy 22 = .ok (.iload_n 1, 1) := by decide +kernel
theorem dX7_answersBy_23 : decode cX7_answersBy 23 = .ok (.iaload, 1) := by decide +kernel
theorem dX7_answersBy_24 : decode cX7_answersBy 24 = .ok (.iand, 1) := by decide +kernel
theorem dX7_answersBy_25 : decode cX7_answersBy 25 = .ok (.ifCond .ne 27, 3) := by decide +kernel
theorem dX7_answersBy_28 : decode cX7_answersBy 28 = .ok (.aload_n 0, 1) := by decide +kernel
theorem dX7_answersBy_29 : decode cX7_answersBy 29 = .ok (.getfield 47, 3) := by decide +kernel
theorem dX7_answersBy_32 : decode cX7_answersBy 32 = .ok (.iload_n 1, 1) := by decide +kernel
theorem dX7_answersBy_33 : decode cX7_answersBy 33 = .ok (.iaload, 1) := by decide +kernel
theorem dX7_answersBy_34 : decode cX7_answersBy 34 = .ok (.ifCond .eq 14, 3) := by decide +kernel
theorem dX7_answersBy_37 : decode cX7_answersBy 37 = .ok (.iload_n 2, 1) := by decide +kernel
theorem dX7_answersBy_38 : decode cX7_answersBy 38 = .ok (.aload_n 0, 1) := by decide +kernel
theorem dX7_answersBy_39 : decode cX7_answersBy 39 = .ok (.getfield 47, 3) := by decide +kernel
theorem dX7_answersBy_42 : decode cX7_answersBy 42 = .ok (.iload_n 1, 1) := by decide +kernel
theorem dX7_answersBy_43 : decode cX7_answersBy 43 = .ok (.iaload, 1) := by decide +kernel
theorem dX7_answersBy_44 : decode cX7_answersBy 44 = .ok (.iand, 1) := by decide +kernel
theorem dX7_answersBy_45 : decode cX7_answersBy 45 = .ok (.ifCond .eq 7, 3) := by decide +kernel
theorem dX7_answersBy_48 : decode cX7_answersBy 48 = .ok (.iconst 1, 1) := by decide +kernel
theorem dX7_answersBy_49 : decode cX7_answersBy 49 = .ok (.goto 4, 3) := by decide +kernel
theorem dX7_answersBy_52 : decode cX7_answersBy 52 = .ok (.iconst 0, 1) := by decide +kernel
theorem dX7_answersBy_53 : decode cX7_answersBy 53 = .ok (.ireturn, 1) := by decide +kernel
set_option maxRecDepth 20000 in
theorem ggX7_answerAt_X7_answersBy : GoodIn wsX7_answerAt wsX7_answersBy := goodIn_r _ [9, 10, 11, 12, 13, 14, 15, 16, 17, 18, 19, 20, 21, 22, 23, 24, 25, 26, 27, 28, 29, 30, 31, 32, 33, 34, 35, 36, 37, 38, 39, 40, 41, 42, 43] (by decide +kernel) (by decide +kernel)
set_option maxRecDepth 20000 in
theorem gX7_answerAt_X7_answersBy : GoodIn wsX7_answerAt (wsV RX7 150 RX7 yX7_answersBy wsX7_answersBy) := goodIn_app (goodIn_of _ (by decide +kernel)) ggX7_answerAt_X7_answersBy
theorem dX7_answerAt_0 : decode cX7_answerAt 0 = .ok (.iconst 0, 1) := by decide +kernel
theorem dX7_answerAt_1 : decode cX7_answerAt 1 = .ok (.istore_n 3, 1) := by decide +kernel
theorem dX7_answerAt_2 : decode cX7_answerAt 2 = .ok (.iconst (-1), 1) := by decide +kernel
theorem dX7_answerAt_3 : decode cX7_answerAt 3 = .ok (.istore 4, 2) := by decide +kernel
theorem dX7_answerAt_5 : decode cX7_answerAt 5 = .ok (.iconst 0, 1) := by decide +kernel
theorem dX7_answerAt_6 : decode cX7_answerAt 6 = .ok (.istore 5, 2) := by decide +kernel
theorem dX7_answerAt_8 : decode cX7_answerAt 8 = .ok (.iload 5, 2) := by decide +kernel
theorem dX7_answerAt_10 : decode cX7_answerAt 10 = .ok (.aload_n 0, 1) := by decide +kernel
theorem dX7_answerAt_11 : decode cX7_answerAt 11 = .ok (.getfield 81, 3) := by decide +kernel
theorem dX7_answerAt_14 : decode cX7_answerAt 14 = .ok (.if_icmp .ge 76, 3) := by decide +kernel
theorem dX7_answerAt_17 : decode cX7_answerAt 17 = .ok (.aload_n 0, 1) := by decide +kernel
theorem dX7_answerAt_18 : decode cX7_answerAt 18 = .ok (.iload_n 1, 1) := by decide +kernel
theorem dX7_answerAt_19 : decode cX7_answerAt 19 = .ok (.aload_n 0, 1) := by decide +kernel
theorem dX7_answerAt_20 : decode cX7_answerAt 20 = .ok (.getfield 32, 3) := by decide +kernel
theorem dX7_answerAt_23 : decode cX7_answerAt 23 = .ok (.iload 5, 2) := by decide +kernel
theorem dX7_answerAt_25 : decode cX7_answerAt 25 = .ok (.iaload, 1) := by decide +kernel
theorem dX7_answerAt_26 : decode cX7_answerAt 26 = .ok (.invokevirtual 150, 3) := by decide +kernel
theorem dX7_answerAt_29 : decode cX7_answerAt 29 = .ok (.ifCond .eq 13, 3) := by decide +kernel
theorem dX7_answerAt_32 : decode cX7_answerAt 32 = .ok (.aload_n 0, 1) := by decide +kernel
theorem dX7_answerAt_33 : decode cX7_answerAt 33 = .ok (.getfield 35, 3) := by decide +kernel
theorem dX7_answerAt_36 : decode cX7_answerAt 36 = .ok (.iload 5, 2) := by decide +kernel
theorem dX7_answerAt_38 : decode cX7_answerAt 38 = .ok (.iaload, 1) := by decide +kernel
theorem dX7_answerAt_39 : decode cX7_answerAt 39 = .ok (.goto 4, 3) := by decide +kernel
theorem dX7_answerAt_42 : decode cX7_answerAt 42 = .ok (.iconst 0, 1) := by decide +kernel
theorem dX7_answerAt_43 : decode cX7_answerAt 43 = .ok (.istore 6, 2) := by decide +kernel
theorem dX7_answerAt_45 : decode cX7_answerAt 45 = .ok (.iload_n 2, 1) := by decide +kernel
theorem dX7_answerAt_46 : decode cX7_answerAt 46 = .ok (.iload_n 3, 1) := by decide +kernel
theorem dX7_answerAt_47 : decode cX7_answerAt 47 = .ok (.if_icmp .lt 28, 3) := by decide +kernel
theorem dX7_answerAt_50 : decode cX7_answerAt 50 = .ok (.iload_n 2, 1) := by decide +kernel
theorem dX7_answerAt_51 : decode cX7_answerAt 51 = .ok (.iload_n 3, 1) := by decide +kernel
theorem dX7_answerAt_52 : decode cX7_answerAt 52 = .ok (.iload 6, 2) := by decide +kernel
theorem dX7_answerAt_54 : decode cX7_answerAt 54 = .ok (.iadd, 1) := by decide +kernel
theorem dX7_answerAt_55 : decode cX7_answerAt 55 = .ok (.if_icmp .ge 20, 3) := by decide +kernel
theorem dX7_answerAt_58 : decode cX7_answerAt 58 = .ok (.aload_n 0, 1) := by decide +kernel
theorem dX7_answerAt_59 : decode cX7_answerAt 59 = .ok (.getfield 38, 3) := by decide +kernel
theorem dX7_answerAt_62 : decode cX7_answerAt 62 = .ok (.bipush 32, 2) := by decide +kernel
theorem dX7_answerAt_64 : decode cX7_answerAt 64 = .ok (.iload 5, 2) := by decide +kernel
theorem dX7_answerAt_66 : decode cX7_answerAt 66 = .ok (.imul, 1) := by decide +kernel
theorem dX7_answerAt_67 : decode cX7_answerAt 67 = .ok (.iload_n 2, 1) := by decide +kernel
theorem dX7_answerAt_68 : decode cX7_answerAt 68 = .ok (.iadd, 1) := by decide +kernel
theorem dX7_answerAt_69 : decode cX7_answerAt 69 = .ok (.iload_n 3, 1) := by decide +kernel
theorem dX7_answerAt_70 : decode cX7_answerAt 70 = .ok (.isub, 1) := by decide +kernel
theorem dX7_answerAt_71 : decode cX7_answerAt 71 = .ok (.iaload, 1) := by decide +kernel
theorem dX7_answerAt_72 : decode cX7_answerAt 72 = .ok (.goto 5, 3) := by decide +kernel
theorem dX7_answerAt_75 : decode cX7_answerAt 75 = .ok (.iload 4, 2) := by decide +kernel
theorem dX7_answerAt_77 : decode cX7_answerAt 77 = .ok (.istore 4, 2) := by decide +kernel
theorem dX7_answerAt_79 : decode cX7_answerAt 79 = .ok (.iload_n 3, 1) := by decide +kernel
theorem dX7_answerAt_80 : decode cX7_answerAt 80 = .ok (.iload 6, 2) := by decide +kernel
theorem dX7_answerAt_82 : decode cX7_answerAt 82 = .ok (.iadd, 1) := by decide +kernel
theorem dX7_answerAt_83 : decode cX7_answerAt 83 = .ok (.istore_n 3, 1) := by decide +kernel
theorem dX7_answerAt_84 : decode cX7_answerAt 84 = .ok (.iinc 5 1, 3) := by decide +kernel
theorem dX7_answerAt_87 : decode cX7_answerAt 87 = .ok (.goto (-79), 3) := by decide +kernel
theorem dX7_answerAt_90 : decode cX7_answerAt 90 = .ok (.iload 4, 2) := by decide +kernel
theorem dX7_answerAt_92 : decode cX7_answerAt 92 = .ok (.ireturn, 1) := by decide +kernel
set_option maxRecDepth 20000 in
theorem ggX7_manyAnswers_X7_answersBy : GoodIn wsX7_manyAnswers wsX7_answersBy := goodIn_r _ [8, 9, 10, 11, 12, 13, 14, 15, 16, 17, 18, 19, 20, 21, 22, 23, 24, 25, 26, 27, 28, 29, 30, 31, 32, 33, 34, 35, 36, 37, 38, 39, 40, 41, 42] (by decide +kernel) (by decide +kernel)
set_option maxRecDepth 20000 in
theorem gX7_manyAnswers_X7_answersBy : GoodIn wsX7_manyAnswers (wsV RX7 150 RX7 yX7_answersBy wsX7_answersBy) := goodIn_app (goodIn_of _ (by decide +kernel)) ggX7_manyAnswers_X7_answersBy
theorem dX7_manyAnswers_0 : decode cX7_manyAnswers 0 = .ok (.iconst 0, 1) := by decide +kernel
theorem dX7_manyAnswers_1 : decode cX7_manyAnswers 1 = .ok (.istore_n 2, 1) := by decide +kernel
theorem dX7_manyAnswers_2 : decode cX7_manyAnswers 2 = .ok (.iconst 0, 1) := by decide +kernel
theorem dX7_manyAnswers_3 : decode cX7_manyAnswers 3 = .ok (.istore_n 3, 1) := by decide +kernel
theorem dX7_manyAnswers_4 : decode cX7_manyAnswers 4 = .ok (.iload_n 3, 1) := by decide +kernel
theorem dX7_manyAnswers_5 : decode cX7_manyAnswers 5 = .ok (.aload_n 0, 1) := by decide +kernel
theorem dX7_manyAnswers_6 : decode cX7_manyAnswers 6 = .ok (.getfield 81, 3) := by decide +kernel
theorem dX7_manyAnswers_9 : decode cX7_manyAnswers 9 = .ok (.if_icmp .ge 36, 3) := by decide +kernel
theorem dX7_manyAnswers_12 : decode cX7_manyAnswers 12 = .ok (.iload_n 2, 1) := by decide +kernel
theorem dX7_manyAnswers_13 : decode cX7_manyAnswers 13 = .ok (.aload_n 0, 1) := by decide +kernel
theorem dX7_manyAnswers_14 : decode cX7_manyAnswers 14 = .ok (.iload_n 1, 1) := by decide +kernel
theorem dX7_manyAnswers_15 : decode cX7_manyAnswers 15 = .ok (.aload_n 0, 1) := by decide +kernel
theorem dX7_manyAnswers_16 : decode cX7_manyAnswers 16 = .ok (.getfield 32, 3) := by decide +kernel
theorem dX7_manyAnswers_19 : decode cX7_manyAnswers 19 = .ok (.iload_n 3, 1) := by decide +kernel
theorem dX7_manyAnswers_20 : decode cX7_manyAnswers 20 = .ok (.iaload, 1) := by decide +kernel
theorem dX7_manyAnswers_21 : decode cX7_manyAnswers 21 = .ok (.invokevirtual 150, 3) := by decide +kernel
theorem dX7_manyAnswers_24 : decode cX7_manyAnswers 24 = .ok (.ifCond .eq 12, 3) := by decide +kernel
theorem dX7_manyAnswers_27 : decode cX7_manyAnswers 27 = .ok (.aload_n 0, 1) := by decide +kernel
theorem dX7_manyAnswers_28 : decode cX7_manyAnswers 28 = .ok (.getfield 35, 3) := by decide +kernel
theorem dX7_manyAnswers_31 : decode cX7_manyAnswers 31 = .ok (.iload_n 3, 1) := by decide +kernel
theorem dX7_manyAnswers_32 : decode cX7_manyAnswers 32 = .ok (.iaload, 1) := by decide +kernel
theorem dX7_manyAnswers_33 : decode cX7_manyAnswers 33 = .ok (.goto 4, 3) := by decide +kernel
theorem dX7_manyAnswers_36 : decode cX7_manyAnswers 36 = .ok (.iconst 0, 1) := by decide +kernel
theorem dX7_manyAnswers_37 : decode cX7_manyAnswers 37 = .ok (.iadd, 1) := by decide +kernel
theorem dX7_manyAnswers_38 : decode cX7_manyAnswers 38 = .ok (.istore_n 2, 1) := by decide +kernel
theorem dX7_manyAnswers_39 : decode cX7_manyAnswers 39 = .ok (.iinc 3 1, 3) := by decide +kernel
theorem dX7_manyAnswers_42 : decode cX7_manyAnswers 42 = .ok (.goto (-38), 3) := by decide +kernel
theorem dX7_manyAnswers_45 : decode cX7_manyAnswers 45 = .ok (.iload_n 2, 1) := by decide +kernel
theorem dX7_manyAnswers_46 : decode cX7_manyAnswers 46 = .ok (.ireturn, 1) := by decide +kernel
set_option maxRecDepth 20000 in
theorem ggX7_answers_X7_isIn : GoodIn wsX7_answers wsX7_isIn := goodIn_r _ [6, 7, 22, 23, 24, 25, 26, 27, 28, 29, 30, 31, 32, 33, 34, 35, 36, 37, 38, 39, 40, 41, 42, 43, 44, 45, 46, 47, 48, 49, 50, 51, 52] (by decide +kernel) (by decide +kernel)
set_option maxRecDepth 20000 in
theorem gX7_answers_X7_isIn : GoodIn wsX7_answers (wsV RX7 141 RX7 yX7_isIn wsX7_isIn) := goodIn_app (goodIn_of _ (by decide +kernel)) ggX7_answers_X7_isIn
set_option maxRecDepth 20000 in
theorem ggX7_answers_X7_manyAnswers : GoodIn wsX7_answers wsX7_manyAnswers := goodIn_r _ [11, 12, 13, 14, 15, 16, 17, 5, 18, 19, 20, 21, 22, 23, 24, 25, 26, 27, 28, 29, 30, 31, 32, 33, 34, 35, 36, 37, 38, 39, 40, 41, 42, 43, 44, 45, 46, 47, 48, 49, 50, 51, 52] (by decide +kernel) (by decide +kernel)
set_option maxRecDepth 20000 in
theorem gX7_answers_X7_manyAnswers : GoodIn wsX7_answers (wsV RX7 153 RX7 yX7_manyAnswers wsX7_manyAnswers) := goodIn_app (goodIn_of _ (by decide +kernel)) ggX7_answers_X7_manyAnswers
theorem dX7_answers_0 : decode cX7_answers 0 = .ok (.aload_n 0, 1) := by decide +kernel
theorem dX7_answers_1 : decode cX7_answers 1 = .ok (.iload_n 1, 1) := by decide +kernel
theorem dX7_answers_2 : decode cX7_answers 2 = .ok (.aload_n 0, 1) := by decide +kernel
theorem dX7_answers_3 : decode cX7_answers 3 = .ok (.getfield 147, 3) := by decide +kernel
theorem dX7_answers_6 : decode cX7_answers 6 = .ok (.invokevirtual 141, 3) := by decide +kernel
theorem dX7_answers_9 : decode cX7_answers 9 = .ok (.ifCond .eq 11, 3) := by decide +kernel
theorem dX7_answers_12 : decode cX7_answers 12 = .ok (.aload_n 0, 1) := by decide +kernel
theorem dX7_answers_13 : decode cX7_answers 13 = .ok (.iload_n 1, 1) := by decide +kernel
theorem dX7_answers_14 : decode cX7_answers 14 = .ok (.invokevirtual 153, 3) := by decide +kernel
theorem dX7_answers_17 : decode cX7_answers 17 = .ok (.goto 4, 3) := by decide +kernel
theorem dX7_answers_20 : decode cX7_answers 20 = .ok (.iconst 0, 1) := by decide +kernel
theorem dX7_answers_21 : decode cX7_answers 21 = .ok (.ireturn, 1) := by decide +kernel
set_option maxRecDepth 20000 in
theorem ggX7_answersOneByOne_X7_isIn : GoodIn wsX7_answersOneByOne wsX7_isIn := goodIn_r _ [8, 9, 17, 18, 19, 20, 21, 22, 23, 24, 25, 26, 27, 28, 29, 30, 31, 32, 33, 34, 35, 36, 37, 38, 39, 40, 41, 42, 43, 44, 45, 46, 47] (by decide +kernel) (by decide +kernel)
set_option maxRecDepth 20000 in
theorem gX7_answersOneByOne_X7_isIn : GoodIn wsX7_answersOneByOne (wsV RX7 141 RX7 yX7_isIn wsX7_isIn) := goodIn_app (goodIn_of _ (by decide +kernel)) ggX7_answersOneByOne_X7_isIn
set_option maxRecDepth 20000 in
theorem ggX7_answersOneByOne_X7_answersBy : GoodIn wsX7_answersOneByOne wsX7_answersBy := goodIn_r _ [13, 14, 15, 16, 17, 18, 19, 20, 21, 22, 23, 24, 25, 26, 27, 28, 29, 30, 31, 32, 33, 34, 35, 36, 37, 38, 39, 40, 41, 42, 43, 44, 45, 46, 47] (by decide +kernel) (by decide +kernel)
set_option maxRecDepth 20000 in
theorem gX7_answersOneByOne_X7_answersBy : GoodIn wsX7_answersOneByOne (wsV RX7 150 RX7 yX7_answersBy wsX7_answersBy) := goodIn_app (goodIn_of _ (by decide +kernel)) ggX7_answersOneByOne_X7_answersBy
theorem dX7_answersOneByOne_0 : decode cX7_answersOneByOne 0 = .ok (.iconst 0, 1) := by decide +kernel
theorem dX7_answersOneByOne_1 : decode cX7_answersOneByOne 1 = .ok (.istore_n 2, 1) := by decide +kernel
theorem dX7_answersOneByOne_2 : decode cX7_answersOneByOne 2 = .ok (.iconst 0, 1) := by decide +kernel
theorem dX7_answersOneByOne_3 : decode cX7_answersOneByOne 3 = .ok (.istore_n 3, 1) := by decide +kernel
theorem dX7_answersOneByOne_4 : decode cX7_answersOneByOne 4 = .ok (.aload_n 0, 1) := by decide +kernel
theorem dX7_answersOneByOne_5 : decode cX7_answersOneByOne 5 = .ok (.iload_n 1, 1) := by decide +kernel
theorem dX7_answersOneByOne_6 : decode cX7_answersOneByOne 6 = .ok (.aload_n 0, 1) := by decide +kernel
theorem dX7_answersOneByOne_7 : decode cX7_answersOneByOne 7 = .ok (.getfield 147, 3) := by decide +kernel
theorem dX7_answersOneByOne_10 : decode cX7_answersOneByOne 10 = .ok (.invokevirtual 141, 3) := by decide +kernel
theorem dX7_answersOneByOne_13 : decode cX7_answersOneByOne 13 = .ok (.ifCond .eq 46, 3) := by decide +kernel
theorem dX7_answersOneByOne_16 : decode cX7_answersOneByOne 16 = .ok (.iload_n 3, 1) := by decide +kernel
theorem dX7_answersOneByOne_17 : decode cX7_answersOneByOne 17 = .ok (.bipush 32, 2) := by decide +kernel
theorem dX7_answersOneByOne_19 : decode cX7_answersOneByOne 19 = .ok (.if_icmp .ge 40, 3) := by decide +kernel
theorem dX7_answersOneByOne_22 : decode cX7_answersOneByOne 22 = .ok (.iload_n 2, 1) := by decide +kernel
theorem dX7_answersOneByOne_23 : decode cX7_answersOneByOne 23 = .ok (.aload_n 0, 1) := by decide +kernel
theorem dX7_answersOneByOne_24 : decode cX7_answersOneByOne 24 = .ok (.getfield 7, 3) := by decide +kernel
theorem dX7_answersOneByOne_27 : decode cX7_answersOneByOne 27 = .ok (.iload_n 3, 1) := by decide +kernel
theorem dX7_answersOneByOne_28 : decode cX7_answersOneByOne 28 = .ok (.baload, 1) := by decide +kernel
theorem dX7_answersOneByOne_29 : decode cX7_answersOneByOne 29 = .ok (.ifCond .eq 21, 3) := by decide +kernel
theorem dX7_answersOneByOne_32 : decode cX7_answersOneByOne 32 = .ok (.aload_n 0, 1) := by decide +kernel
theorem dX7_answersOneByOne_33 : decode cX7_answersOneByOne 33 = .ok (.iload_n 1, 1) := by decide +kernel
theorem dX7_answersOneByOne_34 : decode cX7_answersOneByOne 34 = .ok (.aload_n 0, 1) := by decide +kernel
theorem dX7_answersOneByOne_35 : decode cX7_answersOneByOne 35 = .ok (.getfield 17, 3) := by decide +kernel
theorem dX7_answersOneByOne_38 : decode cX7_answersOneByOne 38 = .ok (.iload_n 3, 1) := by decide +kernel
theorem dX7_answersOneByOne_39 : decode cX7_answersOneByOne 39 = .ok (.iaload, 1) := by decide +kernel
theorem dX7_answersOneByOne_40 : decode cX7_answersOneByOne 40 = .ok (.invokevirtual 150, 3) := by decide +kernel
theorem dX7_answersOneByOne_43 : decode cX7_answersOneByOne 43 = .ok (.ifCond .eq 7, 3) := by decide +kernel
theorem dX7_answersOneByOne_46 : decode cX7_answersOneByOne 46 = .ok (.iconst 1, 1) := by decide +kernel
theorem dX7_answersOneByOne_47 : decode cX7_answersOneByOne 47 = .ok (.goto 4, 3) := by decide +kernel
theorem dX7_answersOneByOne_50 : decode cX7_answersOneByOne 50 = .ok (.iconst 0, 1) := by decide +kernel
theorem dX7_answersOneByOne_51 : decode cX7_answersOneByOne 51 = .ok (.iadd, 1) := by decide +kernel
theorem dX7_answersOneByOne_52 : decode cX7_answersOneByOne 52 = .ok (.istore_n 2, 1) := by decide +kernel
theorem dX7_answersOneByOne_53 : decode cX7_answersOneByOne 53 = .ok (.iinc 3 1, 3) := by decide +kernel
theorem dX7_answersOneByOne_56 : decode cX7_answersOneByOne 56 = .ok (.goto (-52), 3) := by decide +kernel
theorem dX7_answersOneByOne_59 : decode cX7_answersOneByOne 59 = .ok (.iload_n 2, 1) := by decide +kernel
theorem dX7_answersOneByOne_60 : decode cX7_answersOneByOne 60 = .ok (.ireturn, 1) := by decide +kernel
set_option maxRecDepth 20000 in
theorem ggX7_answer_X7_isIn : GoodIn wsX7_answer wsX7_isIn := goodIn_r _ [7, 2, 28, 29, 30, 31, 32, 33, 34, 35, 36, 37, 38, 39, 40, 41, 42, 43, 44, 45, 46, 47, 48, 49, 50, 51, 52, 53, 54, 55, 56, 57, 58] (by decide +kernel) (by decide +kernel)
set_option maxRecDepth 20000 in
theorem gX7_answer_X7_isIn : GoodIn wsX7_answer (wsV RX7 141 RX7 yX7_isIn wsX7_isIn) := goodIn_app (goodIn_of _ (by decide +kernel)) ggX7_answer_X7_isIn
set_option maxRecDepth 20000 in
theorem ggX7_answer_X7_answerAt : GoodIn wsX7_answer wsX7_answerAt := goodIn_r _ [11, 12, 13, 14, 15, 16, 17, 18, 6, 19, 20, 21, 22, 28, 29, 30, 31, 32, 33, 34, 35, 36, 37, 38, 39, 40, 41, 42, 43, 44, 45, 46, 47, 48, 49, 50, 51, 52, 53, 54, 55, 56, 57, 58] (by decide +kernel) (by decide +kernel)
set_option maxRecDepth 20000 in
theorem gX7_answer_X7_answerAt : GoodIn wsX7_answer (wsV RX7 156 RX7 yX7_answerAt wsX7_answerAt) := goodIn_app (goodIn_of _ (by decide +kernel)) ggX7_answer_X7_answerAt
set_option maxRecDepth 20000 in
theorem ggX7_answer_X7_handleOf : GoodIn wsX7_answer wsX7_handleOf := goodIn_r _ [26, 27, 28, 29, 30, 31, 32, 33, 34, 35, 36, 37, 38, 39, 40, 41, 42, 43, 44, 45, 46, 47, 48, 49, 50, 51, 52, 53, 54, 55, 56, 57, 58] (by decide +kernel) (by decide +kernel)
set_option maxRecDepth 20000 in
theorem gX7_answer_X7_handleOf : GoodIn wsX7_answer (wsV RX7 109 RX7 yX7_handleOf wsX7_handleOf) := goodIn_app (goodIn_of _ (by decide +kernel)) ggX7_answer_X7_handleOf
theorem dX7_answer_0 : decode cX7_answer 0 = .ok (.aload_n 0, 1) := by decide +kernel
theorem dX7_answer_1 : decode cX7_answer 1 = .ok (.iload_n 1, 1) := by decide +kernel
theorem dX7_answer_2 : decode cX7_answer 2 = .ok (.aload_n 0, 1) := by decide +kernel
theorem dX7_answer_3 : decode cX7_answer 3 = .ok (.getfield 147, 3) := by decide +kernel
theorem dX7_answer_6 : decode cX7_answer 6 = .ok (.invokevirtual 141, 3) := by decide +kernel
theorem dX7_answer_9 : decode cX7_answer 9 = .ok (.ifCond .eq 12, 3) := by decide +kernel
theorem dX7_answer_12 : decode cX7_answer 12 = .ok (.aload_n 0, 1) := by decide +kernel
theorem dX7_answer_13 : decode cX7_answer 13 = .ok (.iload_n 1, 1) := by decide +kernel
theorem dX7_answer_14 : decode cX7_answer 14 = .ok (.iload_n 2, 1) := by decide +kernel
theorem dX7_answer_15 : decode cX7_answer 15 = .ok (.invokevirtual 156, 3) := by decide +kernel
theorem dX7_answer_18 : decode cX7_answer 18 = .ok (.goto 4, 3) := by decide +kernel
theorem dX7_answer_21 : decode cX7_answer 21 = .ok (.iconst (-1), 1) := by decide +kernel
theorem dX7_answer_22 : decode cX7_answer 22 = .ok (.istore_n 3, 1) := by decide +kernel
theorem dX7_answer_23 : decode cX7_answer 23 = .ok (.aload_n 0, 1) := by decide +kernel
theorem dX7_answer_24 : decode cX7_answer 24 = .ok (.iload_n 3, 1) := by decide +kernel
theorem dX7_answer_25 : decode cX7_answer 25 = .ok (.iconst (-1), 1) := by decide +kernel
theorem dX7_answer_26 : decode cX7_answer 26 = .ok (.if_icmp .ne 7, 3) := by decide +kernel
theorem dX7_answer_29 : decode cX7_answer 29 = .ok (.iconst 1, 1) := by decide +kernel
theorem dX7_answer_30 : decode cX7_answer 30 = .ok (.goto 4, 3) := by decide +kernel
theorem dX7_answer_33 : decode cX7_answer 33 = .ok (.iconst 0, 1) := by decide +kernel
theorem dX7_answer_34 : decode cX7_answer 34 = .ok (.putfield 77, 3) := by decide +kernel
theorem dX7_answer_37 : decode cX7_answer 37 = .ok (.aload_n 0, 1) := by decide +kernel
theorem dX7_answer_38 : decode cX7_answer 38 = .ok (.getfield 77, 3) := by decide +kernel
theorem dX7_answer_41 : decode cX7_answer 41 = .ok (.ifCond .le 7, 3) := by decide +kernel
theorem dX7_answer_44 : decode cX7_answer 44 = .ok (.iconst 0, 1) := by decide +kernel
theorem dX7_answer_45 : decode cX7_answer 45 = .ok (.goto 8, 3) := by decide +kernel
theorem dX7_answer_48 : decode cX7_answer 48 = .ok (.aload_n 0, 1) := by decide +kernel
theorem dX7_answer_49 : decode cX7_answer 49 = .ok (.iload_n 3, 1) := by decide +kernel
theorem dX7_answer_50 : decode cX7_answer 50 = .ok (.invokevirtual 109, 3) := by decide +kernel
theorem dX7_answer_53 : decode cX7_answer 53 = .ok (.ireturn, 1) := by decide +kernel
set_option maxRecDepth 20000 in
theorem ggX7_answeringRows_X7_isIn : GoodIn wsX7_answeringRows wsX7_isIn := goodIn_r _ [8, 9, 17, 18, 19, 20, 21, 22, 23, 24, 25, 26, 27, 28, 29, 30, 31, 32, 33, 34, 35, 36, 37, 38, 39, 40, 41, 42, 43, 44, 45, 46, 47] (by decide +kernel) (by decide +kernel)
set_option maxRecDepth 20000 in
theorem gX7_answeringRows_X7_isIn : GoodIn wsX7_answeringRows (wsV RX7 141 RX7 yX7_isIn wsX7_isIn) := goodIn_app (goodIn_of _ (by decide +kernel)) ggX7_answeringRows_X7_isIn
set_option maxRecDepth 20000 in
theorem ggX7_answeringRows_X7_answersBy : GoodIn wsX7_answeringRows wsX7_answersBy := goodIn_r _ [13, 14, 15, 16, 17, 18, 19, 20, 21, 22, 23, 24, 25, 26, 27, 28, 29, 30, 31, 32, 33, 34, 35, 36, 37, 38, 39, 40, 41, 42, 43, 44, 45, 46, 47] (by decide +kernel) (by decide +kernel)
set_option maxRecDepth 20000 in
theorem gX7_answeringRows_X7_answersBy : GoodIn wsX7_answeringRows (wsV RX7 150 RX7 yX7_answersBy wsX7_answersBy) := goodIn_app (goodIn_of _ (by decide +kernel)) ggX7_answeringRows_X7_answersBy
theorem dX7_answeringRows_0 : decode cX7_answeringRows 0 = .ok (.iconst 0, 1) := by decide +kernel
theorem dX7_answeringRows_1 : decode cX7_answeringRows 1 = .ok (.istore_n 2, 1) := by decide +kernel
theorem dX7_answeringRows_2 : decode cX7_answeringRows 2 = .ok (.iconst 0, 1) := by decide +kernel
theorem dX7_answeringRows_3 : decode cX7_answeringRows 3 = .ok (.istore_n 3, 1) := by decide +kernel
theorem dX7_answeringRows_4 : decode cX7_answeringRows 4 = .ok (.aload_n 0, 1) := by decide +kernel
theorem dX7_answeringRows_5 : decode cX7_answeringRows 5 = .ok (.iload_n 1, 1) := by decide +kernel
theorem dX7_answeringRows_6 : decode cX7_answeringRows 6 = .ok (.aload_n 0, 1) := by decide +kernel
theorem dX7_answeringRows_7 : decode cX7_answeringRows 7 = .ok (.getfield 147, 3) := by decide +kernel
theorem dX7_answeringRows_10 : decode cX7_answeringRows 10 = .ok (.invokevirtual 141, 3) := by decide +kernel
theorem dX7_answeringRows_13 : decode cX7_answeringRows 13 = .ok (.ifCond .eq 39, 3) := by decide +kernel
theorem dX7_answeringRows_16 : decode cX7_answeringRows 16 = .ok (.iload_n 3, 1) := by decide +kernel
theorem dX7_answeringRows_17 : decode cX7_answeringRows 17 = .ok (.aload_n 0, 1) := by decide +kernel
theorem dX7_answeringRows_18 : decode cX7_answeringRows 18 = .ok (.getfield 81, 3) := by decide +kernel
theorem dX7_answeringRows_21 : decode cX7_answeringRows 21 = .ok (.if_icmp .ge 31, 3) := by decide +kernel
theorem dX7_answeringRows_24 : decode cX7_answeringRows 24 = .ok (.iload_n 2, 1) := by decide +kernel
theorem dX7_answeringRows_25 : decode cX7_answeringRows 25 = .ok (.aload_n 0, 1) := by decide +kernel
theorem dX7_answeringRows_26 : decode cX7_answeringRows 26 = .ok (.iload_n 1, 1) := by decide +kernel
theorem dX7_answeringRows_27 : decode cX7_answeringRows 27 = .ok (.aload_n 0, 1) := by decide +kernel
theorem dX7_answeringRows_28 : decode cX7_answeringRows 28 = .ok (.getfield 32, 3) := by decide +kernel
theorem dX7_answeringRows_31 : decode cX7_answeringRows 31 = .ok (.iload_n 3, 1) := by decide +kernel
theorem dX7_answeringRows_32 : decode cX7_answeringRows 32 = .ok (.iaload, 1) := by decide +kernel
theorem dX7_answeringRows_33 : decode cX7_answeringRows 33 = .ok (.invokevirtual 150, 3) := by decide +kernel
theorem dX7_answeringRows_36 : decode cX7_answeringRows 36 = .ok (.ifCond .eq 7, 3) := by decide +kernel
theorem dX7_answeringRows_39 : decode cX7_answeringRows 39 = .ok (.iconst 1, 1) := by decide +kernel
theorem dX7_answeringRows_40 : decode cX7_answeringRows 40 = .ok (.goto 4, 3) := by decide +kernel
theorem dX7_answeringRows_43 : decode cX7_answeringRows 43 = .ok (.iconst 0, 1) := by decide +kernel
theorem dX7_answeringRows_44 : decode cX7_answeringRows 44 = .ok (.iadd, 1) := by decide +kernel
theorem dX7_answeringRows_45 : decode cX7_answeringRows 45 = .ok (.istore_n 2, 1) := by decide +kernel
theorem dX7_answeringRows_46 : decode cX7_answeringRows 46 = .ok (.iinc 3 1, 3) := by decide +kernel
theorem dX7_answeringRows_49 : decode cX7_answeringRows 49 = .ok (.goto (-45), 3) := by decide +kernel
theorem dX7_answeringRows_52 : decode cX7_answeringRows 52 = .ok (.iload_n 2, 1) := by decide +kernel
theorem dX7_answeringRows_53 : decode cX7_answeringRows 53 = .ok (.ireturn, 1) := by decide +kernel
set_option maxRecDepth 20000 in
theorem ggX7_changed_X7_isIn : GoodIn wsX7_changed wsX7_isIn := goodIn_r _ [9, 10, 22, 23, 24, 25, 26, 27, 28, 29, 30, 31, 32, 33, 34, 35, 36, 37, 38, 39, 40, 41, 42, 43, 44, 45, 46, 47, 48, 49, 50, 51, 52] (by decide +kernel) (by decide +kernel)
set_option maxRecDepth 20000 in
theorem gX7_changed_X7_isIn : GoodIn wsX7_changed (wsV RX7 141 RX7 yX7_isIn wsX7_isIn) := goodIn_app (goodIn_of _ (by decide +kernel)) ggX7_changed_X7_isIn
set_option maxRecDepth 20000 in
theorem ggX7_changed_X7_has : GoodIn wsX7_changed wsX7_has := goodIn_r _ [14, 4, 22, 23, 24, 25, 26, 27, 28, 29, 30, 31, 32, 33, 34, 35, 36, 37, 38, 39, 40, 41, 42, 43, 44, 45, 46, 47, 48, 49, 50, 51, 52] (by decide +kernel) (by decide +kernel)
set_option maxRecDepth 20000 in
theorem gX7_changed_X7_has : GoodIn wsX7_changed (wsV RX7 127 RX7 yX7_has wsX7_has) := goodIn_app (goodIn_of _ (by decide +kernel)) ggX7_changed_X7_has
set_option maxRecDepth 20000 in
theorem ggX7_changed_X7_answersBy : GoodIn wsX7_changed wsX7_answersBy := goodIn_r _ [18, 19, 20, 21, 22, 23, 24, 25, 26, 27, 28, 29, 30, 31, 32, 33, 34, 35, 36, 37, 38, 39, 40, 41, 42, 43, 44, 45, 46, 47, 48, 49, 50, 51, 52] (by decide +kernel) (by decide +kernel)
set_option maxRecDepth 20000 in
theorem gX7_changed_X7_answersBy : GoodIn wsX7_changed (wsV RX7 150 RX7 yX7_answersBy wsX7_answersBy) := goodIn_app (goodIn_of _ (by decide +kernel)) ggX7_changed_X7_answersBy
theorem dX7_changed_0 : decode cX7_changed 0 = .ok (.iconst 0, 1) := by decide +kernel
theorem dX7_changed_1 : decode cX7_changed 1 = .ok (.istore_n 3, 1) := by decide +kernel
theorem dX7_changed_2 : decode cX7_changed 2 = .ok (.iconst 0, 1) := by decide +kernel
theorem dX7_changed_3 : decode cX7_changed 3 = .ok (.istore 4, 2) := by decide +kernel
theorem dX7_changed_5 : decode cX7_changed 5 = .ok (.aload_n 0, 1) := by decide +kernel
theorem dX7_changed_6 : decode cX7_changed 6 = .ok (.iload_n 1, 1) := by decide +kernel
theorem dX7_changed_7 : decode cX7_changed 7 = .ok (.aload_n 0, 1) := by decide +kernel
theorem dX7_changed_8 : decode cX7_changed 8 = .ok (.getfield 147, 3) := by decide +kernel
theorem dX7_changed_11 : decode cX7_changed 11 = .ok (.invokevirtual 141, 3) := by decide +kernel
theorem dX7_changed_14 : decode cX7_changed 14 = .ok (.ifCond .eq 113, 3) := by decide +kernel
theorem dX7_changed_17 : decode cX7_changed 17 = .ok (.iload 4, 2) := by decide +kernel
theorem dX7_changed_19 : decode cX7_changed 19 = .ok (.bipush 32, 2) := by decide +kernel
theorem dX7_changed_21 : decode cX7_changed 21 = .ok (.if_icmp .ge 106, 3) := by decide +kernel
theorem dX7_changed_24 : decode cX7_changed 24 = .ok (.iconst 0, 1) := by decide +kernel
theorem dX7_changed_25 : decode cX7_changed 25 = .ok (.istore 5, 2) := by decide +kernel
theorem dX7_changed_27 : decode cX7_changed 27 = .ok (.iconst 0, 1) := by decide +kernel
theorem dX7_changed_28 : decode cX7_changed 28 = .ok (.istore 6, 2) := by decide +kernel
theorem dX7_changed_30 : decode cX7_changed 30 = .ok (.iload 6, 2) := by decide +kernel
theorem dX7_changed_32 : decode cX7_changed 32 = .ok (.bipush 6, 2) := by decide +kernel
theorem dX7_changed_34 : decode cX7_changed 34 = .ok (.if_icmp .ge 49, 3) := by decide +kernel
theorem dX7_changed_37 : decode cX7_changed 37 = .ok (.iload 5, 2) := by decide +kernel
theorem dX7_changed_39 : decode cX7_changed 39 = .ok (.ifCond .ne 31, 3) := by decide +kernel
theorem dX7_changed_42 : decode cX7_changed 42 = .ok (.aload_n 0, 1) := by decide +kernel
theorem dX7_changed_43 : decode cX7_changed 43 = .ok (.iload 4, 2) := by decide +kernel
theorem dX7_changed_45 : decode cX7_changed 45 = .ok (.iload 6, 2) := by decide +kernel
theorem dX7_changed_47 : decode cX7_changed 47 = .ok (.invokevirtual 127, 3) := by decide +kernel
theorem dX7_changed_50 : decode cX7_changed 50 = .ok (.ifCond .eq 24, 3) := by decide +kernel
theorem dX7_changed_53 : decode cX7_changed 53 = .ok (.aload_n 0, 1) := by decide +kernel
theorem dX7_changed_54 : decode cX7_changed 54 = .ok (.getfield 26, 3) := by decide +kernel
theorem dX7_changed_57 : decode cX7_changed 57 = .ok (.bipush 6, 2) := by decide +kernel
theorem dX7_changed_59 : decode cX7_changed 59 = .ok (.iload 4, 2) := by decide +kernel
theorem dX7_changed_61 : decode cX7_changed 61 = .ok (.imul, 1) := by decide +kernel
theorem dX7_changed_62 : decode cX7_changed 62 = .ok (.iload 6, 2) := by decide +kernel
theorem dX7_changed_64 : decode cX7_changed 64 = .ok (.iadd, 1) := by decide +kernel
theorem dX7_changed_65 : decode cX7_changed 65 = .ok (.iaload, 1) := by decide +kernel
theorem dX7_changed_66 : decode cX7_changed 66 = .ok (.iload_n 2, 1) := by decide +kernel
theorem dX7_changed_67 : decode cX7_changed 67 = .ok (.if_icmp .le 7, 3) := by decide +kernel
theorem dX7_changed_70 : decode cX7_changed 70 = .ok (.iconst 1, 1) := by decide +kernel
theorem dX7_changed_71 : decode cX7_changed 71 = .ok (.goto 4, 3) := by decide +kernel
theorem dX7_changed_74 : decode cX7_changed 74 = .ok (.iconst 0, 1) := by decide +kernel
theorem dX7_changed_75 : decode cX7_changed 75 = .ok (.istore 5, 2) := by decide +kernel
theorem dX7_changed_77 : decode cX7_changed 77 = .ok (.iinc 6 1, 3) := by decide +kernel
theorem dX7_changed_80 : decode cX7_changed 80 = .ok (.goto (-50), 3) := by decide +kernel
theorem dX7_changed_83 : decode cX7_changed 83 = .ok (.iload_n 3, 1) := by decide +kernel
theorem dX7_changed_84 : decode cX7_changed 84 = .ok (.iload 5, 2) := by decide +kernel
theorem dX7_changed_86 : decode cX7_changed 86 = .ok (.ifCond .eq 32, 3) := by decide +kernel
theorem dX7_changed_89 : decode cX7_changed 89 = .ok (.aload_n 0, 1) := by decide +kernel
theorem dX7_changed_90 : decode cX7_changed 90 = .ok (.getfield 7, 3) := by decide +kernel
theorem dX7_changed_93 : decode cX7_changed 93 = .ok (.iload 4, 2) := by decide +kernel
theorem dX7_changed_95 : decode cX7_changed 95 = .ok (.baload, 1) := by decide +kernel
theorem dX7_changed_96 : decode cX7_changed 96 = .ok (.ifCond .eq 22, 3) := by decide +kernel
theorem dX7_changed_99 : decode cX7_changed 99 = .ok (.aload_n 0, 1) := by decide +kernel
theorem dX7_changed_100 : decode cX7_changed 100 = .ok (.iload_n 1, 1) := by decide +kernel
theorem dX7_changed_101 : decode cX7_changed 101 = .ok (.aload_n 0, 1) := by decide +kernel
theorem dX7_changed_102 : decode cX7_changed 102 = .ok (.getfield 17, 3) := by decide +kernel
theorem dX7_changed_105 : decode cX7_changed 105 = .ok (.iload 4, 2) := by decide +kernel
theorem dX7_changed_107 : decode cX7_changed 107 = .ok (.iaload, 1) := by decide +kernel
theorem dX7_changed_108 : decode cX7_changed 108 = .ok (.invokevirtual 150, 3) := by decide +kernel
theorem dX7_changed_111 : decode cX7_changed 111 = .ok (.ifCond .eq 7, 3) := by decide +kernel
theorem dX7_changed_114 : decode cX7_changed 114 = .ok (.iconst 1, 1) := by decide +kernel
theorem dX7_changed_115 : decode cX7_changed 115 = .ok (.goto 4, 3) := by decide +kernel
theorem dX7_changed_118 : decode cX7_changed 118 = .ok (.iconst 0, 1) := by decide +kernel
theorem dX7_changed_119 : decode cX7_changed 119 = .ok (.iadd, 1) := by decide +kernel
theorem dX7_changed_120 : decode cX7_changed 120 = .ok (.istore_n 3, 1) := by decide +kernel
theorem dX7_changed_121 : decode cX7_changed 121 = .ok (.iinc 4 1, 3) := by decide +kernel
theorem dX7_changed_124 : decode cX7_changed 124 = .ok (.goto (-119), 3) := by decide +kernel
theorem dX7_changed_127 : decode cX7_changed 127 = .ok (.iload_n 3, 1) := by decide +kernel
theorem dX7_changed_128 : decode cX7_changed 128 = .ok (.ireturn, 1) := by decide +kernel
set_option maxRecDepth 20000 in
theorem ggX7_walk_X7_isIn : GoodIn wsX7_walk wsX7_isIn := goodIn_r _ [12, 3, 37, 38, 39, 40, 41, 42, 43, 44, 45, 46, 47, 48, 49, 50, 51, 52, 53, 54, 55, 56, 57, 58, 59, 60, 61, 62, 63, 64, 65, 66, 67] (by decide +kernel) (by decide +kernel)
set_option maxRecDepth 20000 in
theorem gX7_walk_X7_isIn : GoodIn wsX7_walk (wsV RX7 141 RX7 yX7_isIn wsX7_isIn) := goodIn_app (goodIn_of _ (by decide +kernel)) ggX7_walk_X7_isIn
set_option maxRecDepth 20000 in
theorem ggX7_walk_X7_manyAnswers : GoodIn wsX7_walk wsX7_manyAnswers := goodIn_r _ [16, 17, 18, 19, 20, 21, 22, 11, 23, 24, 25, 26, 37, 38, 39, 40, 41, 42, 43, 44, 45, 46, 47, 48, 49, 50, 51, 52, 53, 54, 55, 56, 57, 58, 59, 60, 61, 62, 63, 64, 65, 66, 67] (by decide +kernel) (by decide +kernel)
set_option maxRecDepth 20000 in
theorem gX7_walk_X7_manyAnswers : GoodIn wsX7_walk (wsV RX7 153 RX7 yX7_manyAnswers wsX7_manyAnswers) := goodIn_app (goodIn_of _ (by decide +kernel)) ggX7_walk_X7_manyAnswers
set_option maxRecDepth 20000 in
theorem ggX7_walk_X7_answerAt : GoodIn wsX7_walk wsX7_answerAt := goodIn_r _ [30, 17, 18, 19, 31, 20, 21, 22, 11, 23, 24, 25, 26, 37, 38, 39, 40, 41, 42, 43, 44, 45, 46, 47, 48, 49, 50, 51, 52, 53, 54, 55, 56, 57, 58, 59, 60, 61, 62, 63, 64, 65, 66, 67] (by decide +kernel) (by decide +kernel)
set_option maxRecDepth 20000 in
theorem gX7_walk_X7_answerAt : GoodIn wsX7_walk (wsV RX7 156 RX7 yX7_answerAt wsX7_answerAt) := goodIn_app (goodIn_of _ (by decide +kernel)) ggX7_walk_X7_answerAt
set_option maxRecDepth 20000 in
theorem ggX7_walk_X7_handleOf : GoodIn wsX7_walk wsX7_handleOf := goodIn_r _ [35, 36, 37, 38, 39, 40, 41, 42, 43, 44, 45, 46, 47, 48, 49, 50, 51, 52, 53, 54, 55, 56, 57, 58, 59, 60, 61, 62, 63, 64, 65, 66, 67] (by decide +kernel) (by decide +kernel)
set_option maxRecDepth 20000 in
theorem gX7_walk_X7_handleOf : GoodIn wsX7_walk (wsV RX7 109 RX7 yX7_handleOf wsX7_handleOf) := goodIn_app (goodIn_of _ (by decide +kernel)) ggX7_walk_X7_handleOf
theorem dX7_walk_0 : decode cX7_walk 0 = .ok (.aload_n 0, 1) := by decide +kernel
theorem dX7_walk_1 : decode cX7_walk 1 = .ok (.aload_n 0, 1) := by decide +kernel
theorem dX7_walk_2 : decode cX7_walk 2 = .ok (.iload_n 1, 1) := by decide +kernel
theorem dX7_walk_3 : decode cX7_walk 3 = .ok (.aload_n 0, 1) := by decide +kernel
theorem dX7_walk_4 : decode cX7_walk 4 = .ok (.getfield 147, 3) := by decide +kernel
theorem dX7_walk_7 : decode cX7_walk 7 = .ok (.invokevirtual 141, 3) := by decide +kernel
theorem dX7_walk_10 : decode cX7_walk 10 = .ok (.ifCond .ne 7, 3) := by decide +kernel
theorem dX7_walk_13 : decode cX7_walk 13 = .ok (.iconst 1, 1) := by decide +kernel
theorem dX7_walk_14 : decode cX7_walk 14 = .ok (.goto 15, 3) := by decide +kernel
theorem dX7_walk_17 : decode cX7_walk 17 = .ok (.aload_n 0, 1) := by decide +kernel
theorem dX7_walk_18 : decode cX7_walk 18 = .ok (.getfield 102, 3) := by decide +kernel
theorem dX7_walk_21 : decode cX7_walk 21 = .ok (.ifCond .eq 7, 3) := by decide +kernel
theorem dX7_walk_24 : decode cX7_walk 24 = .ok (.iconst 2, 1) := by decide +kernel
theorem dX7_walk_25 : decode cX7_walk 25 = .ok (.goto 4, 3) := by decide +kernel
theorem dX7_walk_28 : decode cX7_walk 28 = .ok (.iconst 0, 1) := by decide +kernel
theorem dX7_walk_29 : decode cX7_walk 29 = .ok (.putfield 77, 3) := by decide +kernel
theorem dX7_walk_32 : decode cX7_walk 32 = .ok (.aload_n 0, 1) := by decide +kernel
theorem dX7_walk_33 : decode cX7_walk 33 = .ok (.getfield 77, 3) := by decide +kernel
theorem dX7_walk_36 : decode cX7_walk 36 = .ok (.ifCond .le 5, 3) := by decide +kernel
theorem dX7_walk_39 : decode cX7_walk 39 = .ok (.iconst 0, 1) := by decide +kernel
theorem dX7_walk_40 : decode cX7_walk 40 = .ok (.ireturn, 1) := by decide +kernel
theorem dX7_walk_41 : decode cX7_walk 41 = .ok (.aload_n 0, 1) := by decide +kernel
theorem dX7_walk_42 : decode cX7_walk 42 = .ok (.aload_n 0, 1) := by decide +kernel
theorem dX7_walk_43 : decode cX7_walk 43 = .ok (.iload_n 1, 1) := by decide +kernel
theorem dX7_walk_44 : decode cX7_walk 44 = .ok (.invokevirtual 153, 3) := by decide +kernel
theorem dX7_walk_47 : decode cX7_walk 47 = .ok (.putfield 159, 3) := by decide +kernel
theorem dX7_walk_50 : decode cX7_walk 50 = .ok (.iconst 0, 1) := by decide +kernel
theorem dX7_walk_51 : decode cX7_walk 51 = .ok (.istore_n 2, 1) := by decide +kernel
theorem dX7_walk_52 : decode cX7_walk 52 = .ok (.iload_n 2, 1) := by decide +kernel
theorem dX7_walk_53 : decode cX7_walk 53 = .ok (.aload_n 0, 1) := by decide +kernel
theorem dX7_walk_54 : decode cX7_walk 54 = .ok (.getfield 159, 3) := by decide +kernel
theorem dX7_walk_57 : decode cX7_walk 57 = .ok (.if_icmp .ge 25, 3) := by decide +kernel
theorem dX7_walk_60 : decode cX7_walk 60 = .ok (.aload_n 0, 1) := by decide +kernel
theorem dX7_walk_61 : decode cX7_walk 61 = .ok (.getfield 50, 3) := by decide +kernel
theorem dX7_walk_64 : decode cX7_walk 64 = .ok (.iload_n 2, 1) := by decide +kernel
theorem dX7_walk_65 : decode cX7_walk 65 = .ok (.aload_n 0, 1) := by decide +kernel
theorem dX7_walk_66 : decode cX7_walk 66 = .ok (.aload_n 0, 1) := by decide +kernel
theorem dX7_walk_67 : decode cX7_walk 67 = .ok (.iload_n 1, 1) := by decide +kernel
theorem dX7_walk_68 : decode cX7_walk 68 = .ok (.iload_n 2, 1) := by decide +kernel
theorem dX7_walk_69 : decode cX7_walk 69 = .ok (.invokevirtual 156, 3) := by decide +kernel
theorem dX7_walk_72 : decode cX7_walk 72 = .ok (.invokevirtual 109, 3) := by decide +kernel
theorem dX7_walk_75 : decode cX7_walk 75 = .ok (.iastore, 1) := by decide +kernel
theorem dX7_walk_76 : decode cX7_walk 76 = .ok (.iinc 2 1, 3) := by decide +kernel
theorem dX7_walk_79 : decode cX7_walk 79 = .ok (.goto (-27), 3) := by decide +kernel
theorem dX7_walk_82 : decode cX7_walk 82 = .ok (.aload_n 0, 1) := by decide +kernel
theorem dX7_walk_83 : decode cX7_walk 83 = .ok (.iconst 1, 1) := by decide +kernel
theorem dX7_walk_84 : decode cX7_walk 84 = .ok (.putfield 102, 3) := by decide +kernel
theorem dX7_walk_87 : decode cX7_walk 87 = .ok (.aload_n 0, 1) := by decide +kernel
theorem dX7_walk_88 : decode cX7_walk 88 = .ok (.iconst 0, 1) := by decide +kernel
theorem dX7_walk_89 : decode cX7_walk 89 = .ok (.putfield 162, 3) := by decide +kernel
theorem dX7_walk_92 : decode cX7_walk 92 = .ok (.aload_n 0, 1) := by decide +kernel
theorem dX7_walk_93 : decode cX7_walk 93 = .ok (.iconst 0, 1) := by decide +kernel
theorem dX7_walk_94 : decode cX7_walk 94 = .ok (.putfield 165, 3) := by decide +kernel
theorem dX7_walk_97 : decode cX7_walk 97 = .ok (.aload_n 0, 1) := by decide +kernel
theorem dX7_walk_98 : decode cX7_walk 98 = .ok (.getfield 159, 3) := by decide +kernel
theorem dX7_walk_101 : decode cX7_walk 101 = .ok (.ireturn, 1) := by decide +kernel
theorem dX7_next_0 : decode cX7_next 0 = .ok (.aload_n 0, 1) := by decide +kernel
theorem dX7_next_1 : decode cX7_next 1 = .ok (.aload_n 0, 1) := by decide +kernel
theorem dX7_next_2 : decode cX7_next 2 = .ok (.getfield 102, 3) := by decide +kernel
theorem dX7_next_5 : decode cX7_next 5 = .ok (.ifCond .eq 7, 3) := by decide +kernel
theorem dX7_next_8 : decode cX7_next 8 = .ok (.iconst 0, 1) := by decide +kernel
theorem dX7_next_9 : decode cX7_next 9 = .ok (.goto 4, 3) := by decide +kernel
theorem dX7_next_12 : decode cX7_next 12 = .ok (.iconst 1, 1) := by decide +kernel
theorem dX7_next_13 : decode cX7_next 13 = .ok (.putfield 77, 3) := by decide +kernel
theorem dX7_next_16 : decode cX7_next 16 = .ok (.aload_n 0, 1) := by decide +kernel
theorem dX7_next_17 : decode cX7_next 17 = .ok (.getfield 77, 3) := by decide +kernel
theorem dX7_next_20 : decode cX7_next 20 = .ok (.ifCond .gt 14, 3) := by decide +kernel
theorem dX7_next_23 : decode cX7_next 23 = .ok (.aload_n 0, 1) := by decide +kernel
theorem dX7_next_24 : decode cX7_next 24 = .ok (.getfield 162, 3) := by decide +kernel
theorem dX7_next_27 : decode cX7_next 27 = .ok (.aload_n 0, 1) := by decide +kernel
theorem dX7_next_28 : decode cX7_next 28 = .ok (.getfield 159, 3) := by decide +kernel
theorem dX7_next_31 : decode cX7_next 31 = .ok (.if_icmp .ne 5, 3) := by decide +kernel
theorem dX7_next_34 : decode cX7_next 34 = .ok (.iconst (-1), 1) := by decide +kernel
theorem dX7_next_35 : decode cX7_next 35 = .ok (.ireturn, 1) := by decide +kernel
theorem dX7_next_36 : decode cX7_next 36 = .ok (.aload_n 0, 1) := by decide +kernel
theorem dX7_next_37 : decode cX7_next 37 = .ok (.dup, 1) := by decide +kernel
theorem dX7_next_38 : decode cX7_next 38 = .ok (.getfield 162, 3) := by decide +kernel
theorem dX7_next_41 : decode cX7_next 41 = .ok (.iconst 1, 1) := by decide +kernel
theorem dX7_next_42 : decode cX7_next 42 = .ok (.iadd, 1) := by decide +kernel
theorem dX7_next_43 : decode cX7_next 43 = .ok (.putfield 162, 3) := by decide +kernel
theorem dX7_next_46 : decode cX7_next 46 = .ok (.aload_n 0, 1) := by decide +kernel
theorem dX7_next_47 : decode cX7_next 47 = .ok (.getfield 50, 3) := by decide +kernel
theorem dX7_next_50 : decode cX7_next 50 = .ok (.aload_n 0, 1) := by decide +kernel
theorem dX7_next_51 : decode cX7_next 51 = .ok (.getfield 162, 3) := by decide +kernel
theorem dX7_next_54 : decode cX7_next 54 = .ok (.iconst 1, 1) := by decide +kernel
theorem dX7_next_55 : decode cX7_next 55 = .ok (.isub, 1) := by decide +kernel
theorem dX7_next_56 : decode cX7_next 56 = .ok (.iaload, 1) := by decide +kernel
theorem dX7_next_57 : decode cX7_next 57 = .ok (.ireturn, 1) := by decide +kernel
theorem dX7_defer_0 : decode cX7_defer 0 = .ok (.aload_n 0, 1) := by decide +kernel
theorem dX7_defer_1 : decode cX7_defer 1 = .ok (.iload_n 1, 1) := by decide +kernel
theorem dX7_defer_2 : decode cX7_defer 2 = .ok (.ifCond .lt 8, 3) := by decide +kernel
theorem dX7_defer_5 : decode cX7_defer 5 = .ok (.iload_n 1, 1) := by decide +kernel
theorem dX7_defer_6 : decode cX7_defer 6 = .ok (.iconst 3, 1) := by decide +kernel
theorem dX7_defer_7 : decode cX7_defer 7 = .ok (.if_icmp .le 7, 3) := by decide +kernel
theorem dX7_defer_10 : decode cX7_defer 10 = .ok (.iconst 1, 1) := by decide +kernel
theorem dX7_defer_11 : decode cX7_defer 11 = .ok (.goto 24, 3) := by decide +kernel
theorem dX7_defer_14 : decode cX7_defer 14 = .ok (.aload_n 0, 1) := by decide +kernel
theorem dX7_defer_15 : decode cX7_defer 15 = .ok (.getfield 102, 3) := by decide +kernel
theorem dX7_defer_18 : decode cX7_defer 18 = .ok (.ifCond .eq 12, 3) := by decide +kernel
theorem dX7_defer_21 : decode cX7_defer 21 = .ok (.aload_n 0, 1) := by decide +kernel
theorem dX7_defer_22 : decode cX7_defer 22 = .ok (.getfield 165, 3) := by decide +kernel
theorem dX7_defer_25 : decode cX7_defer 25 = .ok (.bipush 20, 2) := by decide +kernel
theorem dX7_defer_27 : decode cX7_defer 27 = .ok (.if_icmp .ne 7, 3) := by decide +kernel
theorem dX7_defer_30 : decode cX7_defer 30 = .ok (.iconst 2, 1) := by decide +kernel
theorem dX7_defer_31 : decode cX7_defer 31 = .ok (.goto 4, 3) := by decide +kernel
theorem dX7_defer_34 : decode cX7_defer 34 = .ok (.iconst 0, 1) := by decide +kernel
theorem dX7_defer_35 : decode cX7_defer 35 = .ok (.putfield 77, 3) := by decide +kernel
theorem dX7_defer_38 : decode cX7_defer 38 = .ok (.aload_n 0, 1) := by decide +kernel
theorem dX7_defer_39 : decode cX7_defer 39 = .ok (.getfield 77, 3) := by decide +kernel
theorem dX7_defer_42 : decode cX7_defer 42 = .ok (.ifCond .le 5, 3) := by decide +kernel
theorem dX7_defer_45 : decode cX7_defer 45 = .ok (.iconst 0, 1) := by decide +kernel
theorem dX7_defer_46 : decode cX7_defer 46 = .ok (.ireturn, 1) := by decide +kernel
theorem dX7_defer_47 : decode cX7_defer 47 = .ok (.aload_n 0, 1) := by decide +kernel
theorem dX7_defer_48 : decode cX7_defer 48 = .ok (.getfield 53, 3) := by decide +kernel
theorem dX7_defer_51 : decode cX7_defer 51 = .ok (.aload_n 0, 1) := by decide +kernel
theorem dX7_defer_52 : decode cX7_defer 52 = .ok (.getfield 165, 3) := by decide +kernel
theorem dX7_defer_55 : decode cX7_defer 55 = .ok (.iload_n 1, 1) := by decide +kernel
theorem dX7_defer_56 : decode cX7_defer 56 = .ok (.iastore, 1) := by decide +kernel
theorem dX7_defer_57 : decode cX7_defer 57 = .ok (.aload_n 0, 1) := by decide +kernel
theorem dX7_defer_58 : decode cX7_defer 58 = .ok (.getfield 56, 3) := by decide +kernel
theorem dX7_defer_61 : decode cX7_defer 61 = .ok (.aload_n 0, 1) := by decide +kernel
theorem dX7_defer_62 : decode cX7_defer 62 = .ok (.getfield 165, 3) := by decide +kernel
theorem dX7_defer_65 : decode cX7_defer 65 = .ok (.iload_n 2, 1) := by decide +kernel
theorem dX7_defer_66 : decode cX7_defer 66 = .ok (.iastore, 1) := by decide +kernel
theorem dX7_defer_67 : decode cX7_defer 67 = .ok (.aload_n 0, 1) := by decide +kernel
theorem dX7_defer_68 : decode cX7_defer 68 = .ok (.getfield 59, 3) := by decide +kernel
theorem dX7_defer_71 : decode cX7_defer 71 = .ok (.aload_n 0, 1) := by decide +kernel
theorem dX7_defer_72 : decode cX7_defer 72 = .ok (.getfield 165, 3) := by decide +kernel
theorem dX7_defer_75 : decode cX7_defer 75 = .ok (.iload_n 3, 1) := by decide +kernel
theorem dX7_defer_76 : decode cX7_defer 76 = .ok (.iastore, 1) := by decide +kernel
theorem dX7_defer_77 : decode cX7_defer 77 = .ok (.aload_n 0, 1) := by decide +kernel
theorem dX7_defer_78 : decode cX7_defer 78 = .ok (.getfield 62, 3) := by decide +kernel
theorem dX7_defer_81 : decode cX7_defer 81 = .ok (.aload_n 0, 1) := by decide +kernel
theorem dX7_defer_82 : decode cX7_defer 82 = .ok (.getfield 165, 3) := by decide +kernel
theorem dX7_defer_85 : decode cX7_defer 85 = .ok (.iload 4, 2) := by decide +kernel
theorem dX7_defer_87 : decode cX7_defer 87 = .ok (.iastore, 1) := by decide +kernel
theorem dX7_defer_88 : decode cX7_defer 88 = .ok (.aload_n 0, 1) := by decide +kernel
theorem dX7_defer_89 : decode cX7_defer 89 = .ok (.dup, 1) := by decide +kernel
theorem dX7_defer_90 : decode cX7_defer 90 = .ok (.getfield 165, 3) := by decide +kernel
theorem dX7_defer_93 : decode cX7_defer 93 = .ok (.iconst 1, 1) := by decide +kernel
theorem dX7_defer_94 : decode cX7_defer 94 = .ok (.iadd, 1) := by decide +kernel
theorem dX7_defer_95 : decode cX7_defer 95 = .ok (.putfield 165, 3) := by decide +kernel
theorem dX7_defer_98 : decode cX7_defer 98 = .ok (.aload_n 0, 1) := by decide +kernel
theorem dX7_defer_99 : decode cX7_defer 99 = .ok (.getfield 165, 3) := by decide +kernel
theorem dX7_defer_102 : decode cX7_defer 102 = .ok (.ireturn, 1) := by decide +kernel
set_option maxRecDepth 20000 in
theorem ggX7_does_X7_slotOf : GoodIn wsX7_does wsX7_slotOf := goodIn_r _ [10, 11, 12, 58, 59, 60, 61, 62, 63, 64, 65, 66, 67, 68, 69, 70, 71, 72, 73, 74, 75, 76, 77, 78, 79, 80, 81, 82, 83, 84, 85, 86, 87, 88] (by decide +kernel) (by decide +kernel)
set_option maxRecDepth 20000 in
theorem gX7_does_X7_slotOf : GoodIn wsX7_does (wsV RX7 113 RX7 yX7_slotOf wsX7_slotOf) := goodIn_app (goodIn_of _ (by decide +kernel)) ggX7_does_X7_slotOf
set_option maxRecDepth 20000 in
theorem ggX7_does_X7_freeSlot : GoodIn wsX7_does wsX7_freeSlot := goodIn_r _ [16, 11, 58, 59, 60, 61, 62, 63, 64, 65, 66, 67, 68, 69, 70, 71, 72, 73, 74, 75, 76, 77, 78, 79, 80, 81, 82, 83, 84, 85, 86, 87, 88] (by decide +kernel) (by decide +kernel)
set_option maxRecDepth 20000 in
theorem gX7_does_X7_freeSlot : GoodIn wsX7_does (wsV RX7 91 RX7 yX7_freeSlot wsX7_freeSlot) := goodIn_app (goodIn_of _ (by decide +kernel)) ggX7_does_X7_freeSlot
set_option maxRecDepth 20000 in
theorem ggX7_does_X7_isKind : GoodIn wsX7_does wsX7_isKind := goodIn_r _ [19] (by decide +kernel) (by decide +kernel)
set_option maxRecDepth 20000 in
theorem gX7_does_X7_isKind : GoodIn wsX7_does (va_wsS RX7 123 yX7_isKind wsX7_isKind) := goodIn_app (goodIn_of _ (by decide +kernel)) ggX7_does_X7_isKind
set_option maxRecDepth 20000 in
theorem ggX7_does_X7_makes : GoodIn wsX7_does wsX7_makes := goodIn_r _ [23, 11, 5, 24, 13, 14, 15, 9, 16, 25, 26, 27, 28, 29, 30, 31, 32, 33, 58, 59, 60, 61, 62, 63, 64, 65, 66, 67, 68, 69, 70, 71, 72, 73, 74, 75, 76, 77, 78, 79, 80, 81, 82, 83, 84, 85, 86, 87, 88] (by decide +kernel) (by decide +kernel)
set_option maxRecDepth 20000 in
theorem gX7_does_X7_makes : GoodIn wsX7_does (wsV RX7 106 RX7 yX7_makes wsX7_makes) := goodIn_app (goodIn_of _ (by decide +kernel)) ggX7_does_X7_makes
set_option maxRecDepth 20000 in
theorem ggX7_does_X7_adds : GoodIn wsX7_does wsX7_adds := goodIn_r _ [37, 38, 39, 40, 5, 41, 42, 43, 9, 44, 45, 46, 47, 48, 29, 33, 32, 25, 26, 27, 28, 30, 31, 58, 59, 60, 61, 62, 63, 64, 65, 66, 67, 68, 69, 70, 71, 72, 73, 74, 75, 76, 77, 78, 79, 80, 81, 82, 83, 84, 85, 86, 87, 88] (by decide +kernel) (by decide +kernel)
set_option maxRecDepth 20000 in
theorem gX7_does_X7_adds : GoodIn wsX7_does (wsV RX7 134 RX7 yX7_adds wsX7_adds) := goodIn_app (goodIn_of _ (by decide +kernel)) ggX7_does_X7_adds
set_option maxRecDepth 20000 in
theorem ggX7_does_X7_ends : GoodIn wsX7_does wsX7_ends := goodIn_r _ [52, 53, 11, 12, 24, 45, 46, 47, 9, 48, 29, 5, 33, 32, 58, 59, 60, 61, 62, 63, 64, 65, 66, 67, 68, 69, 70, 71, 72, 73, 74, 75, 76, 77, 78, 79, 80, 81, 82, 83, 84, 85, 86, 87, 88] (by decide +kernel) (by decide +kernel)
set_option maxRecDepth 20000 in
theorem gX7_does_X7_ends : GoodIn wsX7_does (wsV RX7 116 RX7 yX7_ends wsX7_ends) := goodIn_app (goodIn_of _ (by decide +kernel)) ggX7_does_X7_ends
set_option maxRecDepth 20000 in
theorem ggX7_does_X7_has : GoodIn wsX7_does wsX7_has := goodIn_r _ [57, 5, 58, 59, 60, 61, 62, 63, 64, 65, 66, 67, 68, 69, 70, 71, 72, 73, 74, 75, 76, 77, 78, 79, 80, 81, 82, 83, 84, 85, 86, 87, 88] (by decide +kernel) (by decide +kernel)
set_option maxRecDepth 20000 in
theorem gX7_does_X7_has : GoodIn wsX7_does (wsV RX7 127 RX7 yX7_has wsX7_has) := goodIn_app (goodIn_of _ (by decide +kernel)) ggX7_does_X7_has
set_option maxRecDepth 20000 in
theorem ggX7_does_X7_becomes : GoodIn wsX7_does wsX7_becomes := goodIn_r _ [44, 5, 45, 46, 47, 9, 48, 29, 33, 32, 25, 26, 27, 28, 30, 31, 58, 59, 60, 61, 62, 63, 64, 65, 66, 67, 68, 69, 70, 71, 72, 73, 74, 75, 76, 77, 78, 79, 80, 81, 82, 83, 84, 85, 86, 87, 88] (by decide +kernel) (by decide +kernel)
set_option maxRecDepth 20000 in
theorem gX7_does_X7_becomes : GoodIn wsX7_does (wsV RX7 98 RX7 yX7_becomes wsX7_becomes) := goodIn_app (goodIn_of _ (by decide +kernel)) ggX7_does_X7_becomes
theorem dX7_does_0 : decode cX7_does 0 = .ok (.aload_n 0, 1) := by decide +kernel
theorem dX7_does_1 : decode cX7_does 1 = .ok (.aload_n 0, 1) := by decide +kernel
theorem dX7_does_2 : decode cX7_does 2 = .ok (.getfield 56, 3) := by decide +kernel
theorem dX7_does_5 : decode cX7_does 5 = .ok (.iload_n 1, 1) := by decide +kernel
theorem dX7_does_6 : decode cX7_does 6 = .ok (.iaload, 1) := by decide +kernel
theorem dX7_does_7 : decode cX7_does 7 = .ok (.invokevirtual 113, 3) := by decide +kernel
theorem dX7_does_10 : decode cX7_does 10 = .ok (.istore_n 2, 1) := by decide +kernel
theorem dX7_does_11 : decode cX7_does 11 = .ok (.aload_n 0, 1) := by decide +kernel
theorem dX7_does_12 : decode cX7_does 12 = .ok (.getfield 53, 3) := by decide +kernel
theorem dX7_does_15 : decode cX7_does 15 = .ok (.iload_n 1, 1) := by decide +kernel
theorem dX7_does_16 : decode cX7_does 16 = .ok (.iaload, 1) := by decide +kernel
theorem dX7_does_17 : decode cX7_does 17 = .ok (.iconst 3, 1) := by decide +kernel
theorem dX7_does_18 : decode cX7_does 18 = .ok (.if_icmp .ne 48, 3) := by decide +kernel
theorem dX7_does_21 : decode cX7_does 21 = .ok (.aload_n 0, 1) := by decide +kernel
theorem dX7_does_22 : decode cX7_does 22 = .ok (.invokevirtual 91, 3) := by decide +kernel
theorem dX7_does_25 : decode cX7_does 25 = .ok (.bipush 32, 2) := by decide +kernel
theorem dX7_does_27 : decode cX7_does 27 = .ok (.if_icmp .eq 15, 3) := by decide +kernel
theorem dX7_does_30 : decode cX7_does 30 = .ok (.aload_n 0, 1) := by decide +kernel
theorem dX7_does_31 : decode cX7_does 31 = .ok (.getfield 59, 3) := by decide +kernel
theorem dX7_does_34 : decode cX7_does 34 = .ok (.iload_n 1, 1) := by decide +kernel
theorem dX7_does_35 : decode cX7_does 35 = .ok (.iaload, 1) := by decide +kernel
theorem dX7_does_36 : decode cX7_does 36 = .ok (.invokestatic 123, 3) := by decide +kernel
theorem dX7_does_39 : decode cX7_does 39 = .ok (.ifCond .ne 5, 3) := by decide +kernel
theorem dX7_does_42 : decode cX7_does 42 = .ok (.iconst 0, 1) := by decide +kernel
theorem dX7_does_43 : decode cX7_does 43 = .ok (.ireturn, 1) := by decide +kernel
theorem dX7_does_44 : decode cX7_does 44 = .ok (.aload_n 0, 1) := by decide +kernel
theorem dX7_does_45 : decode cX7_does 45 = .ok (.aload_n 0, 1) := by decide +kernel
theorem dX7_does_46 : decode cX7_does 46 = .ok (.invokevirtual 106, 3) := by decide +kernel
theorem dX7_does_49 : decode cX7_does 49 = .ok (.aload_n 0, 1) := by decide +kernel
theorem dX7_does_50 : decode cX7_does 50 = .ok (.getfield 59, 3) := by decide +kernel
theorem dX7_does_53 : decode cX7_does 53 = .ok (.iload_n 1, 1) := by decide +kernel
theorem dX7_does_54 : decode cX7_does 54 = .ok (.iaload, 1) := by decide +kernel
theorem dX7_does_55 : decode cX7_does 55 = .ok (.aload_n 0, 1) := by decide +kernel
theorem dX7_does_56 : decode cX7_does 56 = .ok (.getfield 62, 3) := by decide +kernel
theorem dX7_does_59 : decode cX7_does 59 = .ok (.iload_n 1, 1) := by decide +kernel
theorem dX7_does_60 : decode cX7_does 60 = .ok (.iaload, 1) := by decide +kernel
theorem dX7_does_61 : decode cX7_does 61 = .ok (.invokevirtual 134, 3) := by decide +kernel
theorem dX7_does_64 : decode cX7_does 64 = .ok (.iconst 1, 1) := by decide +kernel
theorem dX7_does_65 : decode cX7_does 65 = .ok (.ireturn, 1) := by decide +kernel
theorem dX7_does_66 : decode cX7_does 66 = .ok (.iload_n 2, 1) := by decide +kernel
theorem dX7_does_67 : decode cX7_does 67 = .ok (.iconst (-1), 1) := by decide +kernel
theorem dX7_does_68 : decode cX7_does 68 = .ok (.if_icmp .eq 25, 3) := by decide +kernel
theorem dX7_does_71 : decode cX7_does 71 = .ok (.aload_n 0, 1) := by decide +kernel
theorem dX7_does_72 : decode cX7_does 72 = .ok (.getfield 53, 3) := by decide +kernel
theorem dX7_does_75 : decode cX7_does 75 = .ok (.iload_n 1, 1) := by decide +kernel
theorem dX7_does_76 : decode cX7_does 76 = .ok (.iaload, 1) := by decide +kernel
theorem dX7_does_77 : decode cX7_does 77 = .ok (.iconst 2, 1) := by decide +kernel
theorem dX7_does_78 : decode cX7_does 78 = .ok (.if_icmp .eq 17, 3) := by decide +kernel
theorem dX7_does_81 : decode cX7_does 81 = .ok (.aload_n 0, 1) := by decide +kernel
theorem dX7_does_82 : decode cX7_does 82 = .ok (.getfield 59, 3) := by decide +kernel
theorem dX7_does_85 : decode cX7_does 85 = .ok (.iload_n 1, 1) := by decide +kernel
theorem dX7_does_86 : decode cX7_does 86 = .ok (.iaload, 1) := by decide +kernel
theorem dX7_does_87 : decode cX7_does 87 = .ok (.invokestatic 123, 3) := by decide +kernel
theorem dX7_does_90 : decode cX7_does 90 = .ok (.ifCond .ne 5, 3) := by decide +kernel
theorem dX7_does_93 : decode cX7_does 93 = .ok (.iconst 0, 1) := by decide +kernel
theorem dX7_does_94 : decode cX7_does 94 = .ok (.ireturn, 1) := by decide +kernel
theorem dX7_does_95 : decode cX7_does 95 = .ok (.aload_n 0, 1) := by decide +kernel
theorem dX7_does_96 : decode cX7_does 96 = .ok (.getfield 53, 3) := by decide +kernel
theorem dX7_does_99 : decode cX7_does 99 = .ok (.iload_n 1, 1) := by decide +kernel
theorem dX7_does_100 : decode cX7_does 100 = .ok (.iaload, 1) := by decide +kernel
theorem dX7_does_101 : decode cX7_does 101 = .ok (.iconst 2, 1) := by decide +kernel
theorem dX7_does_102 : decode cX7_does 102 = .ok (.if_icmp .ne 11, 3) := by decide +kernel
theorem dX7_does_105 : decode cX7_does 105 = .ok (.aload_n 0, 1) := by decide +kernel
theorem dX7_does_106 : decode cX7_does 106 = .ok (.iload_n 2, 1) := by decide +kernel
theorem dX7_does_107 : decode cX7_does 107 = .ok (.invokevirtual 116, 3) := by decide +kernel
theorem dX7_does_110 : decode cX7_does 110 = .ok (.pop, 1) := by decide +kernel
theorem dX7_does_111 : decode cX7_does 111 = .ok (.iconst 1, 1) := by decide +kernel
theorem dX7_does_112 : decode cX7_does 112 = .ok (.ireturn, 1) := by decide +kernel
theorem dX7_does_113 : decode cX7_does 113 = .ok (.aload_n 0, 1) := by decide +kernel
theorem dX7_does_114 : decode cX7_does 114 = .ok (.iload_n 2, 1) := by decide +kernel
theorem dX7_does_115 : decode cX7_does 115 = .ok (.aload_n 0, 1) := by decide +kernel
theorem dX7_does_116 : decode cX7_does 116 = .ok (.getfield 59, 3) := by decide +kernel
theorem dX7_does_119 : decode cX7_does 119 = .ok (.iload_n 1, 1) := by decide +kernel
theorem dX7_does_120 : decode cX7_does 120 = .ok (.iaload, 1) := by decide +kernel
theorem dX7_does_121 : decode cX7_does 121 = .ok (.invokevirtual 127, 3) := by decide +kernel
theorem dX7_does_124 : decode cX7_does 124 = .ok (.aload_n 0, 1) := by decide +kernel
theorem dX7_does_125 : decode cX7_does 125 = .ok (.getfield 53, 3) := by decide +kernel
theorem dX7_does_128 : decode cX7_does 128 = .ok (.iload_n 1, 1) := by decide +kernel
theorem dX7_does_129 : decode cX7_does 129 = .ok (.iaload, 1) := by decide +kernel
theorem dX7_does_130 : decode cX7_does 130 = .ok (.ifCond .ne 7, 3) := by decide +kernel
theorem dX7_does_133 : decode cX7_does 133 = .ok (.iconst 1, 1) := by decide +kernel
theorem dX7_does_134 : decode cX7_does 134 = .ok (.goto 4, 3) := by decide +kernel
theorem dX7_does_137 : decode cX7_does 137 = .ok (.iconst 0, 1) := by decide +kernel
theorem dX7_does_138 : decode cX7_does 138 = .ok (.if_icmp .ne 5, 3) := by decide +kernel
theorem dX7_does_141 : decode cX7_does 141 = .ok (.iconst 0, 1) := by decide +kernel
theorem dX7_does_142 : decode cX7_does 142 = .ok (.ireturn, 1) := by decide +kernel
theorem dX7_does_143 : decode cX7_does 143 = .ok (.aload_n 0, 1) := by decide +kernel
theorem dX7_does_144 : decode cX7_does 144 = .ok (.getfield 53, 3) := by decide +kernel
theorem dX7_does_147 : decode cX7_does 147 = .ok (.iload_n 1, 1) := by decide +kernel
theorem dX7_does_148 : decode cX7_does 148 = .ok (.iaload, 1) := by decide +kernel
theorem dX7_does_149 : decode cX7_does 149 = .ok (.ifCond .ne 23, 3) := by decide +kernel
theorem dX7_does_152 : decode cX7_does 152 = .ok (.aload_n 0, 1) := by decide +kernel
theorem dX7_does_153 : decode cX7_does 153 = .ok (.iload_n 2, 1) := by decide +kernel
theorem dX7_does_154 : decode cX7_does 154 = .ok (.aload_n 0, 1) := by decide +kernel
theorem dX7_does_155 : decode cX7_does 155 = .ok (.getfield 59, 3) := by decide +kernel
theorem dX7_does_158 : decode cX7_does 158 = .ok (.iload_n 1, 1) := by decide +kernel
theorem dX7_does_159 : decode cX7_does 159 = .ok (.iaload, 1) := by decide +kernel
theorem dX7_does_160 : decode cX7_does 160 = .ok (.aload_n 0, 1) := by decide +kernel
theorem dX7_does_161 : decode cX7_does 161 = .ok (.getfield 62, 3) := by decide +kernel
theorem dX7_does_164 : decode cX7_does 164 = .ok (.iload_n 1, 1) := by decide +kernel
theorem dX7_does_165 : decode cX7_does 165 = .ok (.iaload, 1) := by decide +kernel
theorem dX7_does_166 : decode cX7_does 166 = .ok (.invokevirtual 134, 3) := by decide +kernel
theorem dX7_does_169 : decode cX7_does 169 = .ok (.goto 25, 3) := by decide +kernel
theorem dX7_does_172 : decode cX7_does 172 = .ok (.aload_n 0, 1) := by decide +kernel
theorem dX7_does_173 : decode cX7_does 173 = .ok (.iload_n 2, 1) := by decide +kernel
theorem dX7_does_174 : decode cX7_does 174 = .ok (.aload_n 0, 1) := by decide +kernel
theorem dX7_does_175 : decode cX7_does 175 = .ok (.getfield 17, 3) := by decide +kernel
theorem dX7_does_178 : decode cX7_does 178 = .ok (.iload_n 2, 1) := by decide +kernel
theorem dX7_does_179 : decode cX7_does 179 = .ok (.iaload, 1) := by decide +kernel
theorem dX7_does_180 : decode cX7_does 180 = .ok (.iconst 1, 1) := by decide +kernel
theorem dX7_does_181 : decode cX7_does 181 = .ok (.aload_n 0, 1) := by decide +kernel
theorem dX7_does_182 : decode cX7_does 182 = .ok (.getfield 59, 3) := by decide +kernel
theorem dX7_does_185 : decode cX7_does 185 = .ok (.iload_n 1, 1) := by decide +kernel
theorem dX7_does_186 : decode cX7_does 186 = .ok (.iaload, 1) := by decide +kernel
theorem dX7_does_187 : decode cX7_does 187 = .ok (.ishl, 1) := by decide +kernel
theorem dX7_does_188 : decode cX7_does 188 = .ok (.iconst (-1), 1) := by decide +kernel
theorem dX7_does_189 : decode cX7_does 189 = .ok (.ixor, 1) := by decide +kernel
theorem dX7_does_190 : decode cX7_does 190 = .ok (.iand, 1) := by decide +kernel
theorem dX7_does_191 : decode cX7_does 191 = .ok (.invokevirtual 98, 3) := by decide +kernel
theorem dX7_does_194 : decode cX7_does 194 = .ok (.iconst 1, 1) := by decide +kernel
theorem dX7_does_195 : decode cX7_does 195 = .ok (.ireturn, 1) := by decide +kernel
set_option maxRecDepth 20000 in
theorem ggX7_finish_X7_does : GoodIn wsX7_finish wsX7_does := goodIn_r _ [8, 9, 10, 11, 12, 13, 14, 15, 16, 7, 17, 18, 19, 20, 21, 22, 23, 24, 25, 26, 27, 28, 29, 30, 31, 32, 33, 34, 35, 36, 37, 38, 39, 40, 41, 42, 43, 44, 45, 46, 47, 48, 49, 50, 51, 52, 53, 54, 55, 56, 57, 58, 59, 60, 61, 62, 63, 64, 65, 66, 67, 68, 69, 70, 71, 72, 73, 74, 75, 76, 77, 78, 79, 80, 81, 82, 83, 84, 85, 86, 87, 88, 89, 90, 91, 92, 93, 94, 95] (by decide +kernel) (by decide +kernel)
set_option maxRecDepth 20000 in
theorem gX7_finish_X7_does : GoodIn wsX7_finish (wsV RX7 168 RX7 yX7_does wsX7_does) := goodIn_app (goodIn_of _ (by decide +kernel)) ggX7_finish_X7_does
theorem dX7_finish_0 : decode cX7_finish 0 = .ok (.aload_n 0, 1) := by decide +kernel
theorem dX7_finish_1 : decode cX7_finish 1 = .ok (.aload_n 0, 1) := by decide +kernel
theorem dX7_finish_2 : decode cX7_finish 2 = .ok (.getfield 102, 3) := by decide +kernel
theorem dX7_finish_5 : decode cX7_finish 5 = .ok (.ifCond .eq 7, 3) := by decide +kernel
theorem dX7_finish_8 : decode cX7_finish 8 = .ok (.iconst 0, 1) := by decide +kernel
theorem dX7_finish_9 : decode cX7_finish 9 = .ok (.goto 4, 3) := by decide +kernel
theorem dX7_finish_12 : decode cX7_finish 12 = .ok (.iconst 1, 1) := by decide +kernel
theorem dX7_finish_13 : decode cX7_finish 13 = .ok (.putfield 77, 3) := by decide +kernel
theorem dX7_finish_16 : decode cX7_finish 16 = .ok (.iconst 0, 1) := by decide +kernel
theorem dX7_finish_17 : decode cX7_finish 17 = .ok (.istore_n 1, 1) := by decide +kernel
theorem dX7_finish_18 : decode cX7_finish 18 = .ok (.aload_n 0, 1) := by decide +kernel
theorem dX7_finish_19 : decode cX7_finish 19 = .ok (.iconst 0, 1) := by decide +kernel
theorem dX7_finish_20 : decode cX7_finish 20 = .ok (.putfield 102, 3) := by decide +kernel
theorem dX7_finish_23 : decode cX7_finish 23 = .ok (.iconst 0, 1) := by decide +kernel
theorem dX7_finish_24 : decode cX7_finish 24 = .ok (.istore_n 2, 1) := by decide +kernel
theorem dX7_finish_25 : decode cX7_finish 25 = .ok (.iload_n 2, 1) := by decide +kernel
theorem dX7_finish_26 : decode cX7_finish 26 = .ok (.aload_n 0, 1) := by decide +kernel
theorem dX7_finish_27 : decode cX7_finish 27 = .ok (.getfield 165, 3) := by decide +kernel
theorem dX7_finish_30 : decode cX7_finish 30 = .ok (.if_icmp .ge 32, 3) := by decide +kernel
theorem dX7_finish_33 : decode cX7_finish 33 = .ok (.aload_n 0, 1) := by decide +kernel
theorem dX7_finish_34 : decode cX7_finish 34 = .ok (.getfield 77, 3) := by decide +kernel
theorem dX7_finish_37 : decode cX7_finish 37 = .ok (.ifCond .ne 25, 3) := by decide +kernel
theorem dX7_finish_40 : decode cX7_finish 40 = .ok (.iload_n 1, 1) := by decide +kernel
theorem dX7_finish_41 : decode cX7_finish 41 = .ok (.aload_n 0, 1) := by decide +kernel
theorem dX7_finish_42 : decode cX7_finish 42 = .ok (.iload_n 2, 1) := by decide +kernel
theorem dX7_finish_43 : decode cX7_finish 43 = .ok (.invokevirtual 168, 3) := by decide +kernel
theorem dX7_finish_46 : decode cX7_finish 46 = .ok (.ifCond .eq 7, 3) := by decide +kernel
theorem dX7_finish_49 : decode cX7_finish 49 = .ok (.iconst 1, 1) := by decide +kernel
theorem dX7_finish_50 : decode cX7_finish 50 = .ok (.goto 4, 3) := by decide +kernel
theorem dX7_finish_53 : decode cX7_finish 53 = .ok (.iconst 0, 1) := by decide +kernel
theorem dX7_finish_54 : decode cX7_finish 54 = .ok (.iadd, 1) := by decide +kernel
theorem dX7_finish_55 : decode cX7_finish 55 = .ok (.istore_n 1, 1) := by decide +kernel
theorem dX7_finish_56 : decode cX7_finish 56 = .ok (.iinc 2 1, 3) := by decide +kernel
theorem dX7_finish_59 : decode cX7_finish 59 = .ok (.goto (-34), 3) := by decide +kernel
theorem dX7_finish_62 : decode cX7_finish 62 = .ok (.aload_n 0, 1) := by decide +kernel
theorem dX7_finish_63 : decode cX7_finish 63 = .ok (.iconst 0, 1) := by decide +kernel
theorem dX7_finish_64 : decode cX7_finish 64 = .ok (.putfield 165, 3) := by decide +kernel
theorem dX7_finish_67 : decode cX7_finish 67 = .ok (.iload_n 1, 1) := by decide +kernel
theorem dX7_finish_68 : decode cX7_finish 68 = .ok (.ireturn, 1) := by decide +kernel
theorem dX7_bars_0 : decode cX7_bars 0 = .ok (.aload_n 0, 1) := by decide +kernel
theorem dX7_bars_1 : decode cX7_bars 1 = .ok (.getfield 68, 3) := by decide +kernel
theorem dX7_bars_4 : decode cX7_bars 4 = .ok (.iload_n 1, 1) := by decide +kernel
theorem dX7_bars_5 : decode cX7_bars 5 = .ok (.iaload, 1) := by decide +kernel
theorem dX7_bars_6 : decode cX7_bars 6 = .ok (.aload_n 0, 1) := by decide +kernel
theorem dX7_bars_7 : decode cX7_bars 7 = .ok (.getfield 65, 3) := by decide +kernel
theorem dX7_bars_10 : decode cX7_bars 10 = .ok (.iload_n 2, 1) := by decide +kernel
theorem dX7_bars_11 : decode cX7_bars 11 = .ok (.iaload, 1) := by decide +kernel
theorem dX7_bars_12 : decode cX7_bars 12 = .ok (.aload_n 0, 1) := by decide +kernel
theorem dX7_bars_13 : decode cX7_bars 13 = .ok (.getfield 68, 3) := by decide +kernel
theorem dX7_bars_16 : decode cX7_bars 16 = .ok (.iload_n 2, 1) := by decide +kernel
theorem dX7_bars_17 : decode cX7_bars 17 = .ok (.iaload, 1) := by decide +kernel
theorem dX7_bars_18 : decode cX7_bars 18 = .ok (.ior, 1) := by decide +kernel
theorem dX7_bars_19 : decode cX7_bars 19 = .ok (.iand, 1) := by decide +kernel
theorem dX7_bars_20 : decode cX7_bars 20 = .ok (.ifCond .ne 19, 3) := by decide +kernel
theorem dX7_bars_23 : decode cX7_bars 23 = .ok (.aload_n 0, 1) := by decide +kernel
theorem dX7_bars_24 : decode cX7_bars 24 = .ok (.getfield 68, 3) := by decide +kernel
theorem dX7_bars_27 : decode cX7_bars 27 = .ok (.iload_n 2, 1) := by decide +kernel
theorem dX7_bars_28 : decode cX7_bars 28 = .ok (.iaload, 1) := by decide +kernel
theorem dX7_bars_29 : decode cX7_bars 29 = .ok (.aload_n 0, 1) := by decide +kernel
theorem dX7_bars_30 : decode cX7_bars 30 = .ok (.getfield 65, 3) := by decide +kernel
theorem dX7_bars_33 : decode cX7_bars 33 = .ok (.iload_n 1, 1) := by decide +kernel
theorem dX7_bars_34 : decode cX7_bars 34 = .ok (.iaload, 1) := by decide +kernel
theorem dX7_bars_35 : decode cX7_bars 35 = .ok (.iand, 1) := by decide +kernel
theorem dX7_bars_36 : decode cX7_bars 36 = .ok (.ifCond .eq 7, 3) := by decide +kernel
theorem dX7_bars_39 : decode cX7_bars 39 = .ok (.iconst 1, 1) := by decide +kernel
theorem dX7_bars_40 : decode cX7_bars 40 = .ok (.goto 4, 3) := by decide +kernel
theorem dX7_bars_43 : decode cX7_bars 43 = .ok (.iconst 0, 1) := by decide +kernel
theorem dX7_bars_44 : decode cX7_bars 44 = .ok (.ireturn, 1) := by decide +kernel
set_option maxRecDepth 20000 in
theorem ggX7_system_X7_isSet : GoodIn wsX7_system wsX7_isSet := goodIn_r _ [9] (by decide +kernel) (by decide +kernel)
set_option maxRecDepth 20000 in
theorem gX7_system_X7_isSet : GoodIn wsX7_system (va_wsS RX7 144 yX7_isSet wsX7_isSet) := goodIn_app (goodIn_of _ (by decide +kernel)) ggX7_system_X7_isSet
set_option maxRecDepth 20000 in
theorem ggX7_system_X7_bars : GoodIn wsX7_system wsX7_bars := goodIn_r _ [13, 4, 3, 14, 15, 16, 17, 18, 19, 20, 21, 22, 23, 24, 25, 26, 27, 28, 29, 30, 31, 32, 33, 34, 35, 36, 37, 38, 39, 40, 41, 42, 43, 44] (by decide +kernel) (by decide +kernel)
set_option maxRecDepth 20000 in
theorem gX7_system_X7_bars : GoodIn wsX7_system (wsV RX7 174 RX7 yX7_bars wsX7_bars) := goodIn_app (goodIn_of _ (by decide +kernel)) ggX7_system_X7_bars
theorem dX7_system_0 : decode cX7_system 0 = .ok (.aload_n 0, 1) := by decide +kernel
theorem dX7_system_1 : decode cX7_system 1 = .ok (.iload_n 1, 1) := by decide +kernel
theorem dX7_system_2 : decode cX7_system 2 = .ok (.invokestatic 144, 3) := by decide +kernel
theorem dX7_system_5 : decode cX7_system 5 = .ok (.ifCond .eq 10, 3) := by decide +kernel
theorem dX7_system_8 : decode cX7_system 8 = .ok (.iload_n 2, 1) := by decide +kernel
theorem dX7_system_9 : decode cX7_system 9 = .ok (.invokestatic 144, 3) := by decide +kernel
theorem dX7_system_12 : decode cX7_system 12 = .ok (.ifCond .ne 7, 3) := by decide +kernel
theorem dX7_system_15 : decode cX7_system 15 = .ok (.iconst 1, 1) := by decide +kernel
theorem dX7_system_16 : decode cX7_system 16 = .ok (.goto 17, 3) := by decide +kernel
theorem dX7_system_19 : decode cX7_system 19 = .ok (.aload_n 0, 1) := by decide +kernel
theorem dX7_system_20 : decode cX7_system 20 = .ok (.getfield 171, 3) := by decide +kernel
theorem dX7_system_23 : decode cX7_system 23 = .ok (.bipush 8, 2) := by decide +kernel
theorem dX7_system_25 : decode cX7_system 25 = .ok (.if_icmp .ne 7, 3) := by decide +kernel
theorem dX7_system_28 : decode cX7_system 28 = .ok (.iconst 2, 1) := by decide +kernel
theorem dX7_system_29 : decode cX7_system 29 = .ok (.goto 4, 3) := by decide +kernel
theorem dX7_system_32 : decode cX7_system 32 = .ok (.iconst 0, 1) := by decide +kernel
theorem dX7_system_33 : decode cX7_system 33 = .ok (.putfield 77, 3) := by decide +kernel
theorem dX7_system_36 : decode cX7_system 36 = .ok (.aload_n 0, 1) := by decide +kernel
theorem dX7_system_37 : decode cX7_system 37 = .ok (.getfield 77, 3) := by decide +kernel
theorem dX7_system_40 : decode cX7_system 40 = .ok (.ifCond .le 5, 3) := by decide +kernel
theorem dX7_system_43 : decode cX7_system 43 = .ok (.iconst 0, 1) := by decide +kernel
theorem dX7_system_44 : decode cX7_system 44 = .ok (.ireturn, 1) := by decide +kernel
theorem dX7_system_45 : decode cX7_system 45 = .ok (.aload_n 0, 1) := by decide +kernel
theorem dX7_system_46 : decode cX7_system 46 = .ok (.getfield 65, 3) := by decide +kernel
theorem dX7_system_49 : decode cX7_system 49 = .ok (.aload_n 0, 1) := by decide +kernel
theorem dX7_system_50 : decode cX7_system 50 = .ok (.getfield 171, 3) := by decide +kernel
theorem dX7_system_53 : decode cX7_system 53 = .ok (.iload_n 1, 1) := by decide +kernel
theorem dX7_system_54 : decode cX7_system 54 = .ok (.iastore, 1) := by decide +kernel
theorem dX7_system_55 : decode cX7_system 55 = .ok (.aload_n 0, 1) := by decide +kernel
theorem dX7_system_56 : decode cX7_system 56 = .ok (.getfield 68, 3) := by decide +kernel
theorem dX7_system_59 : decode cX7_system 59 = .ok (.aload_n 0, 1) := by decide +kernel
theorem dX7_system_60 : decode cX7_system 60 = .ok (.getfield 171, 3) := by decide +kernel
theorem dX7_system_63 : decode cX7_system 63 = .ok (.iload_n 2, 1) := by decide +kernel
theorem dX7_system_64 : decode cX7_system 64 = .ok (.iastore, 1) := by decide +kernel
theorem dX7_system_65 : decode cX7_system 65 = .ok (.aload_n 0, 1) := by decide +kernel
theorem dX7_system_66 : decode cX7_system 66 = .ok (.getfield 71, 3) := by decide +kernel
theorem dX7_system_69 : decode cX7_system 69 = .ok (.aload_n 0, 1) := by decide +kernel
theorem dX7_system_70 : decode cX7_system 70 = .ok (.getfield 171, 3) := by decide +kernel
theorem dX7_system_73 : decode cX7_system 73 = .ok (.iconst 0, 1) := by decide +kernel
theorem dX7_system_74 : decode cX7_system 74 = .ok (.iastore, 1) := by decide +kernel
theorem dX7_system_75 : decode cX7_system 75 = .ok (.iconst 0, 1) := by decide +kernel
theorem dX7_system_76 : decode cX7_system 76 = .ok (.istore_n 3, 1) := by decide +kernel
theorem dX7_system_77 : decode cX7_system 77 = .ok (.iload_n 3, 1) := by decide +kernel
theorem dX7_system_78 : decode cX7_system 78 = .ok (.aload_n 0, 1) := by decide +kernel
theorem dX7_system_79 : decode cX7_system 79 = .ok (.getfield 171, 3) := by decide +kernel
theorem dX7_system_82 : decode cX7_system 82 = .ok (.if_icmp .ge 68, 3) := by decide +kernel
theorem dX7_system_85 : decode cX7_system 85 = .ok (.aload_n 0, 1) := by decide +kernel
theorem dX7_system_86 : decode cX7_system 86 = .ok (.getfield 71, 3) := by decide +kernel
theorem dX7_system_89 : decode cX7_system 89 = .ok (.aload_n 0, 1) := by decide +kernel
theorem dX7_system_90 : decode cX7_system 90 = .ok (.getfield 171, 3) := by decide +kernel
theorem dX7_system_93 : decode cX7_system 93 = .ok (.aload_n 0, 1) := by decide +kernel
theorem dX7_system_94 : decode cX7_system 94 = .ok (.aload_n 0, 1) := by decide +kernel
theorem dX7_system_95 : decode cX7_system 95 = .ok (.getfield 171, 3) := by decide +kernel
theorem dX7_system_98 : decode cX7_system 98 = .ok (.iload_n 3, 1) := by decide +kernel
theorem dX7_system_99 : decode cX7_system 99 = .ok (.invokevirtual 174, 3) := by decide +kernel
theorem dX7_system_102 : decode cX7_system 102 = .ok (.ifCond .eq 32, 3) := by decide +kernel
theorem dX7_system_105 : decode cX7_system 105 = .ok (.aload_n 0, 1) := by decide +kernel
theorem dX7_system_106 : decode cX7_system 106 = .ok (.getfield 71, 3) := by decide +kernel
theorem dX7_system_109 : decode cX7_system 109 = .ok (.iload_n 3, 1) := by decide +kernel
theorem dX7_system_110 : decode cX7_system 110 = .ok (.iaload, 1) := by decide +kernel
theorem dX7_system_111 : decode cX7_system 111 = .ok (.aload_n 0, 1) := by decide +kernel
theorem dX7_system_112 : decode cX7_system 112 = .ok (.getfield 71, 3) := by decide +kernel
theorem dX7_system_115 : decode cX7_system 115 = .ok (.aload_n 0, 1) := by decide +kernel
theorem dX7_system_116 : decode cX7_system 116 = .ok (.getfield 171, 3) := by decide +kernel
theorem dX7_system_119 : decode cX7_system 119 = .ok (.iaload, 1) := by decide +kernel
theorem dX7_system_120 : decode cX7_system 120 = .ok (.if_icmp .lt 14, 3) := by decide +kernel
theorem dX7_system_123 : decode cX7_system 123 = .ok (.aload_n 0, 1) := by decide +kernel
theorem dX7_system_124 : decode cX7_system 124 = .ok (.getfield 71, 3) := by decide +kernel
theorem dX7_system_127 : decode cX7_system 127 = .ok (.iload_n 3, 1) := by decide +kernel
theorem dX7_system_128 : decode cX7_system 128 = .ok (.iaload, 1) := by decide +kernel
theorem dX7_system_129 : decode cX7_system 129 = .ok (.iconst 1, 1) := by decide +kernel
theorem dX7_system_130 : decode cX7_system 130 = .ok (.iadd, 1) := by decide +kernel
theorem dX7_system_131 : decode cX7_system 131 = .ok (.goto 12, 3) := by decide +kernel
theorem dX7_system_134 : decode cX7_system 134 = .ok (.aload_n 0, 1) := by decide +kernel
theorem dX7_system_135 : decode cX7_system 135 = .ok (.getfield 71, 3) := by decide +kernel
theorem dX7_system_138 : decode cX7_system 138 = .ok (.aload_n 0, 1) := by decide +kernel
theorem dX7_system_139 : decode cX7_system 139 = .ok (.getfield 171, 3) := by decide +kernel
theorem dX7_system_142 : decode cX7_system 142 = .ok (.iaload, 1) := by decide +kernel
theorem dX7_system_143 : decode cX7_system 143 = .ok (.iastore, 1) := by decide +kernel
theorem dX7_system_144 : decode cX7_system 144 = .ok (.iinc 3 1, 3) := by decide +kernel
theorem dX7_system_147 : decode cX7_system 147 = .ok (.goto (-70), 3) := by decide +kernel
theorem dX7_system_150 : decode cX7_system 150 = .ok (.aload_n 0, 1) := by decide +kernel
theorem dX7_system_151 : decode cX7_system 151 = .ok (.dup, 1) := by decide +kernel
theorem dX7_system_152 : decode cX7_system 152 = .ok (.getfield 171, 3) := by decide +kernel
theorem dX7_system_155 : decode cX7_system 155 = .ok (.iconst 1, 1) := by decide +kernel
theorem dX7_system_156 : decode cX7_system 156 = .ok (.iadd, 1) := by decide +kernel
theorem dX7_system_157 : decode cX7_system 157 = .ok (.putfield 171, 3) := by decide +kernel
theorem dX7_system_160 : decode cX7_system 160 = .ok (.aload_n 0, 1) := by decide +kernel
theorem dX7_system_161 : decode cX7_system 161 = .ok (.getfield 71, 3) := by decide +kernel
theorem dX7_system_164 : decode cX7_system 164 = .ok (.aload_n 0, 1) := by decide +kernel
theorem dX7_system_165 : decode cX7_system 165 = .ok (.getfield 171, 3) := by decide +kernel
theorem dX7_system_168 : decode cX7_system 168 = .ok (.iconst 1, 1) := by decide +kernel
theorem dX7_system_169 : decode cX7_system 169 = .ok (.isub, 1) := by decide +kernel
theorem dX7_system_170 : decode cX7_system 170 = .ok (.iaload, 1) := by decide +kernel
theorem dX7_system_171 : decode cX7_system 171 = .ok (.ireturn, 1) := by decide +kernel
set_option maxRecDepth 20000 in
theorem ggX7_stage_X7_isIn : GoodIn wsX7_stage wsX7_isIn := goodIn_r _ [7, 8, 9, 10, 11, 12, 13, 14, 15, 16, 17, 18, 19, 20, 21, 22, 23, 24, 25, 26, 27, 28, 29, 30, 31, 32, 33, 34, 35, 36, 37, 38, 39] (by decide +kernel) (by decide +kernel)
set_option maxRecDepth 20000 in
theorem gX7_stage_X7_isIn : GoodIn wsX7_stage (wsV RX7 141 RX7 yX7_isIn wsX7_isIn) := goodIn_app (goodIn_of _ (by decide +kernel)) ggX7_stage_X7_isIn
theorem dX7_stage_0 : decode cX7_stage 0 = .ok (.aload_n 0, 1) := by decide +kernel
theorem dX7_stage_1 : decode cX7_stage 1 = .ok (.iload_n 1, 1) := by decide +kernel
theorem dX7_stage_2 : decode cX7_stage 2 = .ok (.aload_n 0, 1) := by decide +kernel
theorem dX7_stage_3 : decode cX7_stage 3 = .ok (.getfield 171, 3) := by decide +kernel
theorem dX7_stage_6 : decode cX7_stage 6 = .ok (.invokevirtual 141, 3) := by decide +kernel
theorem dX7_stage_9 : decode cX7_stage 9 = .ok (.ifCond .eq 12, 3) := by decide +kernel
theorem dX7_stage_12 : decode cX7_stage 12 = .ok (.aload_n 0, 1) := by decide +kernel
theorem dX7_stage_13 : decode cX7_stage 13 = .ok (.getfield 71, 3) := by decide +kernel
theorem dX7_stage_16 : decode cX7_stage 16 = .ok (.iload_n 1, 1) := by decide +kernel
theorem dX7_stage_17 : decode cX7_stage 17 = .ok (.iaload, 1) := by decide +kernel
theorem dX7_stage_18 : decode cX7_stage 18 = .ok (.goto 4, 3) := by decide +kernel
theorem dX7_stage_21 : decode cX7_stage 21 = .ok (.iconst 0, 1) := by decide +kernel
theorem dX7_stage_22 : decode cX7_stage 22 = .ok (.ireturn, 1) := by decide +kernel
theorem dX7_manyStages_0 : decode cX7_manyStages 0 = .ok (.iconst 0, 1) := by decide +kernel
theorem dX7_manyStages_1 : decode cX7_manyStages 1 = .ok (.istore_n 1, 1) := by decide +kernel
theorem dX7_manyStages_2 : decode cX7_manyStages 2 = .ok (.iconst 0, 1) := by decide +kernel
theorem dX7_manyStages_3 : decode cX7_manyStages 3 = .ok (.istore_n 2, 1) := by decide +kernel
theorem dX7_manyStages_4 : decode cX7_manyStages 4 = .ok (.iload_n 2, 1) := by decide +kernel
theorem dX7_manyStages_5 : decode cX7_manyStages 5 = .ok (.aload_n 0, 1) := by decide +kernel
theorem dX7_manyStages_6 : decode cX7_manyStages 6 = .ok (.getfield 171, 3) := by decide +kernel
theorem dX7_manyStages_9 : decode cX7_manyStages 9 = .ok (.if_icmp .ge 34, 3) := by decide +kernel
theorem dX7_manyStages_12 : decode cX7_manyStages 12 = .ok (.aload_n 0, 1) := by decide +kernel
theorem dX7_manyStages_13 : decode cX7_manyStages 13 = .ok (.getfield 71, 3) := by decide +kernel
theorem dX7_manyStages_16 : decode cX7_manyStages 16 = .ok (.iload_n 2, 1) := by decide +kernel
theorem dX7_manyStages_17 : decode cX7_manyStages 17 = .ok (.iaload, 1) := by decide +kernel
theorem dX7_manyStages_18 : decode cX7_manyStages 18 = .ok (.iconst 1, 1) := by decide +kernel
theorem dX7_manyStages_19 : decode cX7_manyStages 19 = .ok (.iadd, 1) := by decide +kernel
theorem dX7_manyStages_20 : decode cX7_manyStages 20 = .ok (.iload_n 1, 1) := by decide +kernel
theorem dX7_manyStages_21 : decode cX7_manyStages 21 = .ok (.if_icmp .le 14, 3) := by decide +kernel
theorem dX7_manyStages_24 : decode cX7_manyStages 24 = .ok (.aload_n 0, 1) := by decide +kernel
theorem dX7_manyStages_25 : decode cX7_manyStages 25 = .ok (.getfield 71, 3) := by decide +kernel
theorem dX7_manyStages_28 : decode cX7_manyStages 28 = .ok (.iload_n 2, 1) := by decide +kernel
theorem dX7_manyStages_29 : decode cX7_manyStages 29 = .ok (.iaload, 1) := by decide +kernel
theorem dX7_manyStages_30 : decode cX7_manyStages 30 = .ok (.iconst 1, 1) := by decide +kernel
theorem dX7_manyStages_31 : decode cX7_manyStages 31 = .ok (.iadd, 1) := by decide +kernel
theorem dX7_manyStages_32 : decode cX7_manyStages 32 = .ok (.goto 4, 3) := by decide +kernel
theorem dX7_manyStages_35 : decode cX7_manyStages 35 = .ok (.iload_n 1, 1) := by decide +kernel
theorem dX7_manyStages_36 : decode cX7_manyStages 36 = .ok (.istore_n 1, 1) := by decide +kernel
theorem dX7_manyStages_37 : decode cX7_manyStages 37 = .ok (.iinc 2 1, 3) := by decide +kernel
theorem dX7_manyStages_40 : decode cX7_manyStages 40 = .ok (.goto (-36), 3) := by decide +kernel
theorem dX7_manyStages_43 : decode cX7_manyStages 43 = .ok (.iload_n 1, 1) := by decide +kernel
theorem dX7_manyStages_44 : decode cX7_manyStages 44 = .ok (.ireturn, 1) := by decide +kernel
set_option maxRecDepth 20000 in
theorem ggX7_stages_X7_manyStages : GoodIn wsX7_stages wsX7_manyStages := goodIn_r _ [6, 7, 8, 9, 10, 11, 12, 13, 14, 15, 16, 17, 18, 19, 20, 21, 22, 23, 24, 25, 26, 27, 28, 29, 30, 31, 32, 33, 34, 35, 36, 37, 38, 39] (by decide +kernel) (by decide +kernel)
set_option maxRecDepth 20000 in
theorem gX7_stages_X7_manyStages : GoodIn wsX7_stages (wsV RX7 177 RX7 yX7_manyStages wsX7_manyStages) := goodIn_app (goodIn_of _ (by decide +kernel)) ggX7_stages_X7_manyStages
theorem dX7_stages_0 : decode cX7_stages 0 = .ok (.aload_n 0, 1) := by decide +kernel
theorem dX7_stages_1 : decode cX7_stages 1 = .ok (.iconst 0, 1) := by decide +kernel
theorem dX7_stages_2 : decode cX7_stages 2 = .ok (.putfield 77, 3) := by decide +kernel
theorem dX7_stages_5 : decode cX7_stages 5 = .ok (.aload_n 0, 1) := by decide +kernel
theorem dX7_stages_6 : decode cX7_stages 6 = .ok (.invokevirtual 177, 3) := by decide +kernel
theorem dX7_stages_9 : decode cX7_stages 9 = .ok (.ireturn, 1) := by decide +kernel
theorem dX7_runsOn_0 : decode cX7_runsOn 0 = .ok (.iconst 1, 1) := by decide +kernel
theorem dX7_runsOn_1 : decode cX7_runsOn 1 = .ok (.istore_n 3, 1) := by decide +kernel
theorem dX7_runsOn_2 : decode cX7_runsOn 2 = .ok (.iconst 0, 1) := by decide +kernel
theorem dX7_runsOn_3 : decode cX7_runsOn 3 = .ok (.istore 4, 2) := by decide +kernel
theorem dX7_runsOn_5 : decode cX7_runsOn 5 = .ok (.iconst 0, 1) := by decide +kernel
theorem dX7_runsOn_6 : decode cX7_runsOn 6 = .ok (.istore 5, 2) := by decide +kernel
theorem dX7_runsOn_8 : decode cX7_runsOn 8 = .ok (.iload 5, 2) := by decide +kernel
theorem dX7_runsOn_10 : decode cX7_runsOn 10 = .ok (.bipush 6, 2) := by decide +kernel
theorem dX7_runsOn_12 : decode cX7_runsOn 12 = .ok (.if_icmp .ge 43, 3) := by decide +kernel
theorem dX7_runsOn_15 : decode cX7_runsOn 15 = .ok (.iload_n 3, 1) := by decide +kernel
theorem dX7_runsOn_16 : decode cX7_runsOn 16 = .ok (.aload_n 0, 1) := by decide +kernel
theorem dX7_runsOn_17 : decode cX7_runsOn 17 = .ok (.getfield 65, 3) := by decide +kernel
theorem dX7_runsOn_20 : decode cX7_runsOn 20 = .ok (.iload_n 1, 1) := by decide +kernel
theorem dX7_runsOn_21 : decode cX7_runsOn 21 = .ok (.iaload, 1) := by decide +kernel
theorem dX7_runsOn_22 : decode cX7_runsOn 22 = .ok (.iload 5, 2) := by decide +kernel
theorem dX7_runsOn_24 : decode cX7_runsOn 24 = .ok (.ishr, 1) := by decide +kernel
theorem dX7_runsOn_25 : decode cX7_runsOn 25 = .ok (.iconst 1, 1) := by decide +kernel
theorem dX7_runsOn_26 : decode cX7_runsOn 26 = .ok (.iand, 1) := by decide +kernel
theorem dX7_runsOn_27 : decode cX7_runsOn 27 = .ok (.iconst 1, 1) := by decide +kernel
theorem dX7_runsOn_28 : decode cX7_runsOn 28 = .ok (.if_icmp .ne 18, 3) := by decide +kernel
theorem dX7_runsOn_31 : decode cX7_runsOn 31 = .ok (.aload_n 0, 1) := by decide +kernel
theorem dX7_runsOn_32 : decode cX7_runsOn 32 = .ok (.getfield 23, 3) := by decide +kernel
theorem dX7_runsOn_35 : decode cX7_runsOn 35 = .ok (.bipush 6, 2) := by decide +kernel
theorem dX7_runsOn_37 : decode cX7_runsOn 37 = .ok (.iload_n 2, 1) := by decide +kernel
theorem dX7_runsOn_38 : decode cX7_runsOn 38 = .ok (.imul, 1) := by decide +kernel
theorem dX7_runsOn_39 : decode cX7_runsOn 39 = .ok (.iload 5, 2) := by decide +kernel
theorem dX7_runsOn_41 : decode cX7_runsOn 41 = .ok (.iadd, 1) := by decide +kernel
theorem dX7_runsOn_42 : decode cX7_runsOn 42 = .ok (.iaload, 1) := by decide +kernel
theorem dX7_runsOn_43 : decode cX7_runsOn 43 = .ok (.goto 4, 3) := by decide +kernel
theorem dX7_runsOn_46 : decode cX7_runsOn 46 = .ok (.iconst 0, 1) := by decide +kernel
theorem dX7_runsOn_47 : decode cX7_runsOn 47 = .ok (.iadd, 1) := by decide +kernel
theorem dX7_runsOn_48 : decode cX7_runsOn 48 = .ok (.istore_n 3, 1) := by decide +kernel
theorem dX7_runsOn_49 : decode cX7_runsOn 49 = .ok (.iinc 5 1, 3) := by decide +kernel
theorem dX7_runsOn_52 : decode cX7_runsOn 52 = .ok (.goto (-44), 3) := by decide +kernel
theorem dX7_runsOn_55 : decode cX7_runsOn 55 = .ok (.iconst 0, 1) := by decide +kernel
theorem dX7_runsOn_56 : decode cX7_runsOn 56 = .ok (.istore 5, 2) := by decide +kernel
theorem dX7_runsOn_58 : decode cX7_runsOn 58 = .ok (.iload 5, 2) := by decide +kernel
theorem dX7_runsOn_60 : decode cX7_runsOn 60 = .ok (.bipush 6, 2) := by decide +kernel
theorem dX7_runsOn_62 : decode cX7_runsOn 62 = .ok (.if_icmp .ge 59, 3) := by decide +kernel
theorem dX7_runsOn_65 : decode cX7_runsOn 65 = .ok (.aload_n 0, 1) := by decide +kernel
theorem dX7_runsOn_66 : decode cX7_runsOn 66 = .ok (.getfield 68, 3) := by decide +kernel
theorem dX7_runsOn_69 : decode cX7_runsOn 69 = .ok (.iload_n 1, 1) := by decide +kernel
theorem dX7_runsOn_70 : decode cX7_runsOn 70 = .ok (.iaload, 1) := by decide +kernel
theorem dX7_runsOn_71 : decode cX7_runsOn 71 = .ok (.iload 5, 2) := by decide +kernel
theorem dX7_runsOn_73 : decode cX7_runsOn 73 = .ok (.ishr, 1) := by decide +kernel
theorem dX7_runsOn_74 : decode cX7_runsOn 74 = .ok (.iconst 1, 1) := by decide +kernel
theorem dX7_runsOn_75 : decode cX7_runsOn 75 = .ok (.iand, 1) := by decide +kernel
theorem dX7_runsOn_76 : decode cX7_runsOn 76 = .ok (.iconst 1, 1) := by decide +kernel
theorem dX7_runsOn_77 : decode cX7_runsOn 77 = .ok (.if_icmp .ne 38, 3) := by decide +kernel
theorem dX7_runsOn_80 : decode cX7_runsOn 80 = .ok (.aload_n 0, 1) := by decide +kernel
theorem dX7_runsOn_81 : decode cX7_runsOn 81 = .ok (.getfield 23, 3) := by decide +kernel
theorem dX7_runsOn_84 : decode cX7_runsOn 84 = .ok (.bipush 6, 2) := by decide +kernel
theorem dX7_runsOn_86 : decode cX7_runsOn 86 = .ok (.iload_n 2, 1) := by decide +kernel
theorem dX7_runsOn_87 : decode cX7_runsOn 87 = .ok (.imul, 1) := by decide +kernel
theorem dX7_runsOn_88 : decode cX7_runsOn 88 = .ok (.iload 5, 2) := by decide +kernel
theorem dX7_runsOn_90 : decode cX7_runsOn 90 = .ok (.iadd, 1) := by decide +kernel
theorem dX7_runsOn_91 : decode cX7_runsOn 91 = .ok (.dup2, 1) := by decide +kernel
theorem dX7_runsOn_92 : decode cX7_runsOn 92 = .ok (.iaload, 1) := by decide +kernel
theorem dX7_runsOn_93 : decode cX7_runsOn 93 = .ok (.iload_n 3, 1) := by decide +kernel
theorem dX7_runsOn_94 : decode cX7_runsOn 94 = .ok (.iadd, 1) := by decide +kernel
theorem dX7_runsOn_95 : decode cX7_runsOn 95 = .ok (.iastore, 1) := by decide +kernel
theorem dX7_runsOn_96 : decode cX7_runsOn 96 = .ok (.aload_n 0, 1) := by decide +kernel
theorem dX7_runsOn_97 : decode cX7_runsOn 97 = .ok (.getfield 26, 3) := by decide +kernel
theorem dX7_runsOn_100 : decode cX7_runsOn 100 = .ok (.bipush 6, 2) := by decide +kernel
theorem dX7_runsOn_102 : decode cX7_runsOn 102 = .ok (.iload_n 2, 1) := by decide +kernel
theorem dX7_runsOn_103 : decode cX7_runsOn 103 = .ok (.imul, 1) := by decide +kernel
theorem dX7_runsOn_104 : decode cX7_runsOn 104 = .ok (.iload 5, 2) := by decide +kernel
theorem dX7_runsOn_106 : decode cX7_runsOn 106 = .ok (.iadd, 1) := by decide +kernel
theorem dX7_runsOn_107 : decode cX7_runsOn 107 = .ok (.aload_n 0, 1) := by decide +kernel
theorem dX7_runsOn_108 : decode cX7_runsOn 108 = .ok (.getfield 95, 3) := by decide +kernel
theorem dX7_runsOn_111 : decode cX7_runsOn 111 = .ok (.iastore, 1) := by decide +kernel
theorem dX7_runsOn_112 : decode cX7_runsOn 112 = .ok (.iinc 4 1, 3) := by decide +kernel
theorem dX7_runsOn_115 : decode cX7_runsOn 115 = .ok (.iinc 5 1, 3) := by decide +kernel
theorem dX7_runsOn_118 : decode cX7_runsOn 118 = .ok (.goto (-60), 3) := by decide +kernel
theorem dX7_runsOn_121 : decode cX7_runsOn 121 = .ok (.iload 4, 2) := by decide +kernel
theorem dX7_runsOn_123 : decode cX7_runsOn 123 = .ok (.ireturn, 1) := by decide +kernel
set_option maxRecDepth 20000 in
theorem ggX7_run_X7_manyStages : GoodIn wsX7_run wsX7_manyStages := goodIn_r _ [14, 4, 7, 21, 22, 23, 24, 25, 26, 27, 28, 29, 30, 31, 32, 33, 34, 35, 36, 37, 38, 39, 40, 41, 42, 43, 44, 45, 46, 47, 48, 49, 50, 51] (by decide +kernel) (by decide +kernel)
set_option maxRecDepth 20000 in
theorem gX7_run_X7_manyStages : GoodIn wsX7_run (wsV RX7 177 RX7 yX7_manyStages wsX7_manyStages) := goodIn_app (goodIn_of _ (by decide +kernel)) ggX7_run_X7_manyStages
set_option maxRecDepth 20000 in
theorem ggX7_run_X7_runsOn : GoodIn wsX7_run wsX7_runsOn := goodIn_r _ [18, 5, 19, 6, 20, 3, 21, 22, 23, 24, 25, 26, 27, 28, 29, 30, 31, 32, 33, 34, 35, 36, 37, 38, 39, 40, 41, 42, 43, 44, 45, 46, 47, 48, 49, 50, 51] (by decide +kernel) (by decide +kernel)
set_option maxRecDepth 20000 in
theorem gX7_run_X7_runsOn : GoodIn wsX7_run (wsV RX7 180 RX7 yX7_runsOn wsX7_runsOn) := goodIn_app (goodIn_of _ (by decide +kernel)) ggX7_run_X7_runsOn
theorem dX7_run_0 : decode cX7_run 0 = .ok (.aload_n 0, 1) := by decide +kernel
theorem dX7_run_1 : decode cX7_run 1 = .ok (.aload_n 0, 1) := by decide +kernel
theorem dX7_run_2 : decode cX7_run 2 = .ok (.getfield 102, 3) := by decide +kernel
theorem dX7_run_5 : decode cX7_run 5 = .ok (.ifCond .eq 7, 3) := by decide +kernel
theorem dX7_run_8 : decode cX7_run 8 = .ok (.iconst 1, 1) := by decide +kernel
theorem dX7_run_9 : decode cX7_run 9 = .ok (.goto 4, 3) := by decide +kernel
theorem dX7_run_12 : decode cX7_run 12 = .ok (.iconst 0, 1) := by decide +kernel
theorem dX7_run_13 : decode cX7_run 13 = .ok (.putfield 77, 3) := by decide +kernel
theorem dX7_run_16 : decode cX7_run 16 = .ok (.aload_n 0, 1) := by decide +kernel
theorem dX7_run_17 : decode cX7_run 17 = .ok (.getfield 77, 3) := by decide +kernel
theorem dX7_run_20 : decode cX7_run 20 = .ok (.ifCond .le 5, 3) := by decide +kernel
theorem dX7_run_23 : decode cX7_run 23 = .ok (.iconst 0, 1) := by decide +kernel
theorem dX7_run_24 : decode cX7_run 24 = .ok (.ireturn, 1) := by decide +kernel
theorem dX7_run_25 : decode cX7_run 25 = .ok (.aload_n 0, 1) := by decide +kernel
theorem dX7_run_26 : decode cX7_run 26 = .ok (.dup, 1) := by decide +kernel
theorem dX7_run_27 : decode cX7_run 27 = .ok (.getfield 95, 3) := by decide +kernel
theorem dX7_run_30 : decode cX7_run 30 = .ok (.iconst 1, 1) := by decide +kernel
theorem dX7_run_31 : decode cX7_run 31 = .ok (.iadd, 1) := by decide +kernel
theorem dX7_run_32 : decode cX7_run 32 = .ok (.putfield 95, 3) := by decide +kernel
theorem dX7_run_35 : decode cX7_run 35 = .ok (.iconst 0, 1) := by decide +kernel
theorem dX7_run_36 : decode cX7_run 36 = .ok (.istore_n 1, 1) := by decide +kernel
theorem dX7_run_37 : decode cX7_run 37 = .ok (.iconst 0, 1) := by decide +kernel
theorem dX7_run_38 : decode cX7_run 38 = .ok (.istore_n 2, 1) := by decide +kernel
theorem dX7_run_39 : decode cX7_run 39 = .ok (.iload_n 2, 1) := by decide +kernel
theorem dX7_run_40 : decode cX7_run 40 = .ok (.aload_n 0, 1) := by decide +kernel
theorem dX7_run_41 : decode cX7_run 41 = .ok (.invokevirtual 177, 3) := by decide +kernel
theorem dX7_run_44 : decode cX7_run 44 = .ok (.if_icmp .ge 105, 3) := by decide +kernel
theorem dX7_run_47 : decode cX7_run 47 = .ok (.iconst 0, 1) := by decide +kernel
theorem dX7_run_48 : decode cX7_run 48 = .ok (.istore_n 3, 1) := by decide +kernel
theorem dX7_run_49 : decode cX7_run 49 = .ok (.iload_n 3, 1) := by decide +kernel
theorem dX7_run_50 : decode cX7_run 50 = .ok (.aload_n 0, 1) := by decide +kernel
theorem dX7_run_51 : decode cX7_run 51 = .ok (.getfield 171, 3) := by decide +kernel
theorem dX7_run_54 : decode cX7_run 54 = .ok (.if_icmp .ge 89, 3) := by decide +kernel
theorem dX7_run_57 : decode cX7_run 57 = .ok (.aload_n 0, 1) := by decide +kernel
theorem dX7_run_58 : decode cX7_run 58 = .ok (.getfield 65, 3) := by decide +kernel
theorem dX7_run_61 : decode cX7_run 61 = .ok (.iload_n 3, 1) := by decide +kernel
theorem dX7_run_62 : decode cX7_run 62 = .ok (.iaload, 1) := by decide +kernel
theorem dX7_run_63 : decode cX7_run 63 = .ok (.aload_n 0, 1) := by decide +kernel
theorem dX7_run_64 : decode cX7_run 64 = .ok (.getfield 68, 3) := by decide +kernel
theorem dX7_run_67 : decode cX7_run 67 = .ok (.iload_n 3, 1) := by decide +kernel
theorem dX7_run_68 : decode cX7_run 68 = .ok (.iaload, 1) := by decide +kernel
theorem dX7_run_69 : decode cX7_run 69 = .ok (.ior, 1) := by decide +kernel
theorem dX7_run_70 : decode cX7_run 70 = .ok (.istore 4, 2) := by decide +kernel
theorem dX7_run_72 : decode cX7_run 72 = .ok (.iconst 0, 1) := by decide +kernel
theorem dX7_run_73 : decode cX7_run 73 = .ok (.istore 5, 2) := by decide +kernel
theorem dX7_run_75 : decode cX7_run 75 = .ok (.iload 5, 2) := by decide +kernel
theorem dX7_run_77 : decode cX7_run 77 = .ok (.bipush 32, 2) := by decide +kernel
theorem dX7_run_79 : decode cX7_run 79 = .ok (.if_icmp .ge 58, 3) := by decide +kernel
theorem dX7_run_82 : decode cX7_run 82 = .ok (.aload_n 0, 1) := by decide +kernel
theorem dX7_run_83 : decode cX7_run 83 = .ok (.getfield 71, 3) := by decide +kernel
theorem dX7_run_86 : decode cX7_run 86 = .ok (.iload_n 3, 1) := by decide +kernel
theorem dX7_run_87 : decode cX7_run 87 = .ok (.iaload, 1) := by decide +kernel
theorem dX7_run_88 : decode cX7_run 88 = .ok (.iload_n 2, 1) := by decide +kernel
theorem dX7_run_89 : decode cX7_run 89 = .ok (.if_icmp .ne 48, 3) := by decide +kernel
theorem dX7_run_92 : decode cX7_run 92 = .ok (.iload_n 1, 1) := by decide +kernel
theorem dX7_run_93 : decode cX7_run 93 = .ok (.aload_n 0, 1) := by decide +kernel
theorem dX7_run_94 : decode cX7_run 94 = .ok (.getfield 7, 3) := by decide +kernel
theorem dX7_run_97 : decode cX7_run 97 = .ok (.iload 5, 2) := by decide +kernel
theorem dX7_run_99 : decode cX7_run 99 = .ok (.baload, 1) := by decide +kernel
theorem dX7_run_100 : decode cX7_run 100 = .ok (.ifCond .eq 28, 3) := by decide +kernel
theorem dX7_run_103 : decode cX7_run 103 = .ok (.aload_n 0, 1) := by decide +kernel
theorem dX7_run_104 : decode cX7_run 104 = .ok (.getfield 17, 3) := by decide +kernel
theorem dX7_run_107 : decode cX7_run 107 = .ok (.iload 5, 2) := by decide +kernel
theorem dX7_run_109 : decode cX7_run 109 = .ok (.iaload, 1) := by decide +kernel
theorem dX7_run_110 : decode cX7_run 110 = .ok (.iload 4, 2) := by decide +kernel
theorem dX7_run_112 : decode cX7_run 112 = .ok (.iand, 1) := by decide +kernel
theorem dX7_run_113 : decode cX7_run 113 = .ok (.iload 4, 2) := by decide +kernel
theorem dX7_run_115 : decode cX7_run 115 = .ok (.if_icmp .ne 13, 3) := by decide +kernel
theorem dX7_run_118 : decode cX7_run 118 = .ok (.aload_n 0, 1) := by decide +kernel
theorem dX7_run_119 : decode cX7_run 119 = .ok (.iload_n 3, 1) := by decide +kernel
theorem dX7_run_120 : decode cX7_run 120 = .ok (.iload 5, 2) := by decide +kernel
theorem dX7_run_122 : decode cX7_run 122 = .ok (.invokevirtual 180, 3) := by decide +kernel
theorem dX7_run_125 : decode cX7_run 125 = .ok (.goto 4, 3) := by decide +kernel
theorem dX7_run_128 : decode cX7_run 128 = .ok (.iconst 0, 1) := by decide +kernel
theorem dX7_run_129 : decode cX7_run 129 = .ok (.iadd, 1) := by decide +kernel
theorem dX7_run_130 : decode cX7_run 130 = .ok (.istore_n 1, 1) := by decide +kernel
theorem dX7_run_131 : decode cX7_run 131 = .ok (.iinc 5 1, 3) := by decide +kernel
theorem dX7_run_134 : decode cX7_run 134 = .ok (.goto (-59), 3) := by decide +kernel
theorem dX7_run_137 : decode cX7_run 137 = .ok (.iinc 3 1, 3) := by decide +kernel
theorem dX7_run_140 : decode cX7_run 140 = .ok (.goto (-91), 3) := by decide +kernel
theorem dX7_run_143 : decode cX7_run 143 = .ok (.iinc 2 1, 3) := by decide +kernel
theorem dX7_run_146 : decode cX7_run 146 = .ok (.goto (-107), 3) := by decide +kernel
theorem dX7_run_149 : decode cX7_run 149 = .ok (.iload_n 1, 1) := by decide +kernel
theorem dX7_run_150 : decode cX7_run 150 = .ok (.ireturn, 1) := by decide +kernel
theorem dX7_tick_0 : decode cX7_tick 0 = .ok (.aload_n 0, 1) := by decide +kernel
theorem dX7_tick_1 : decode cX7_tick 1 = .ok (.iconst 0, 1) := by decide +kernel
theorem dX7_tick_2 : decode cX7_tick 2 = .ok (.putfield 77, 3) := by decide +kernel
theorem dX7_tick_5 : decode cX7_tick 5 = .ok (.aload_n 0, 1) := by decide +kernel
theorem dX7_tick_6 : decode cX7_tick 6 = .ok (.getfield 95, 3) := by decide +kernel
theorem dX7_tick_9 : decode cX7_tick 9 = .ok (.ireturn, 1) := by decide +kernel
