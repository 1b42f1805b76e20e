theorem dX5_take_81 : decode cX5_take 81 = .ok (.iaload, 1) := by decide +kernel
theorem dX5_take_82 : decode cX5_take 82 = .ok (.iload_n 3, 1) := by decide +kernel
theorem dX5_take_83 : decode cX5_take 83 = .ok (.invokestatic 154, 3) := by decide +kernel
theorem dX5_take_86 : decode cX5_take 86 = .ok (.ifCond .ne 8, 3) := by decide +kernel
theorem dX5_take_89 : decode cX5_take 89 = .ok (.iconst 3, 1) := by decide +kernel
theorem dX5_take_90 : decode cX5_take 90 = .ok (.invokestatic 113, 3) := by decide +kernel
theorem dX5_take_93 : decode cX5_take 93 = .ok (.ireturn, 1) := by decide +kernel
theorem dX5_take_94 : decode cX5_take 94 = .ok (.aload_n 0, 1) := by decide +kernel
theorem dX5_take_95 : decode cX5_take 95 = .ok (.getfield 28, 3) := by decide +kernel
theorem dX5_take_98 : decode cX5_take 98 = .ok (.iload 4, 2) := by decide +kernel
theorem dX5_take_100 : decode cX5_take 100 = .ok (.iload 5, 2) := by decide +kernel
theorem dX5_take_102 : decode cX5_take 102 = .ok (.iastore, 1) := by decide +kernel
theorem dX5_take_103 : decode cX5_take 103 = .ok (.iload 5, 2) := by decide +kernel
theorem dX5_take_105 : decode cX5_take 105 = .ok (.ifCond .ge 7, 3) := by decide +kernel
theorem dX5_take_108 : decode cX5_take 108 = .ok (.iconst 0, 1) := by decide +kernel
theorem dX5_take_109 : decode cX5_take 109 = .ok (.goto 4, 3) := by decide +kernel
theorem dX5_take_112 : decode cX5_take 112 = .ok (.iconst 1, 1) := by decide +kernel
theorem dX5_take_113 : decode cX5_take 113 = .ok (.ireturn, 1) := by decide +kernel
theorem dX5_head_0 : decode cX5_head 0 = .ok (.iload_n 1, 1) := by decide +kernel
theorem dX5_head_1 : decode cX5_head 1 = .ok (.iconst 0, 1) := by decide +kernel
theorem dX5_head_2 : decode cX5_head 2 = .ok (.iconst 3, 1) := by decide +kernel
theorem dX5_head_3 : decode cX5_head 3 = .ok (.invokestatic 93, 3) := by decide +kernel
theorem dX5_head_6 : decode cX5_head 6 = .ok (.ifCond .eq 40, 3) := by decide +kernel
theorem dX5_head_9 : decode cX5_head 9 = .ok (.iload_n 2, 1) := by decide +kernel
theorem dX5_head_10 : decode cX5_head 10 = .ok (.iconst 0, 1) := by decide +kernel
theorem dX5_head_11 : decode cX5_head 11 = .ok (.iconst 5, 1) := by decide +kernel
theorem dX5_head_12 : decode cX5_head 12 = .ok (.invokestatic 93, 3) := by decide +kernel
theorem dX5_head_15 : decode cX5_head 15 = .ok (.ifCond .eq 31, 3) := by decide +kernel
theorem dX5_head_18 : decode cX5_head 18 = .ok (.iload_n 3, 1) := by decide +kernel
theorem dX5_head_19 : decode cX5_head 19 = .ok (.iconst (-1), 1) := by decide +kernel
theorem dX5_head_20 : decode cX5_head 20 = .ok (.iconst 5, 1) := by decide +kernel
theorem dX5_head_21 : decode cX5_head 21 = .ok (.invokestatic 93, 3) := by decide +kernel
theorem dX5_head_24 : decode cX5_head 24 = .ok (.ifCond .eq 22, 3) := by decide +kernel
theorem dX5_head_27 : decode cX5_head 27 = .ok (.iload 4, 2) := by decide +kernel
theorem dX5_head_29 : decode cX5_head 29 = .ok (.iconst (-1), 1) := by decide +kernel
theorem dX5_head_30 : decode cX5_head 30 = .ok (.iconst 2, 1) := by decide +kernel
theorem dX5_head_31 : decode cX5_head 31 = .ok (.invokestatic 93, 3) := by decide +kernel
theorem dX5_head_34 : decode cX5_head 34 = .ok (.ifCond .eq 12, 3) := by decide +kernel
theorem dX5_head_37 : decode cX5_head 37 = .ok (.iconst 1, 1) := by decide +kernel
theorem dX5_head_38 : decode cX5_head 38 = .ok (.lload 5, 2) := by decide +kernel
theorem dX5_head_40 : decode cX5_head 40 = .ok (.invokestatic 105, 3) := by decide +kernel
theorem dX5_head_43 : decode cX5_head 43 = .ok (.ifCond .ne 5, 3) := by decide +kernel
theorem dX5_head_46 : decode cX5_head 46 = .ok (.iconst (-1), 1) := by decide +kernel
theorem dX5_head_47 : decode cX5_head 47 = .ok (.ireturn, 1) := by decide +kernel
theorem dX5_head_48 : decode cX5_head 48 = .ok (.lload 5, 2) := by decide +kernel
theorem dX5_head_50 : decode cX5_head 50 = .ok (.invokestatic 69, 3) := by decide +kernel
theorem dX5_head_53 : decode cX5_head 53 = .ok (.dstore 7, 2) := by decide +kernel
theorem dX5_head_55 : decode cX5_head 55 = .ok (.dload 7, 2) := by decide +kernel
theorem dX5_head_57 : decode cX5_head 57 = .ok (.ldc2_w 158, 3) := by decide +kernel
theorem dX5_head_60 : decode cX5_head 60 = .ok (.dcmp .g, 1) := by decide +kernel
theorem dX5_head_61 : decode cX5_head 61 = .ok (.ifCond .lt 12, 3) := by decide +kernel
theorem dX5_head_64 : decode cX5_head 64 = .ok (.dload 7, 2) := by decide +kernel
theorem dX5_head_66 : decode cX5_head 66 = .ok (.ldc2_w 160, 3) := by decide +kernel
theorem dX5_head_69 : decode cX5_head 69 = .ok (.dcmp .l, 1) := by decide +kernel
theorem dX5_head_70 : decode cX5_head 70 = .ok (.ifCond .le 5, 3) := by decide +kernel
theorem dX5_head_73 : decode cX5_head 73 = .ok (.iconst (-1), 1) := by decide +kernel
theorem dX5_head_74 : decode cX5_head 74 = .ok (.ireturn, 1) := by decide +kernel
theorem dX5_head_75 : decode cX5_head 75 = .ok (.aload_n 0, 1) := by decide +kernel
theorem dX5_head_76 : decode cX5_head 76 = .ok (.getfield 37, 3) := by decide +kernel
theorem dX5_head_79 : decode cX5_head 79 = .ok (.iload_n 1, 1) := by decide +kernel
theorem dX5_head_80 : decode cX5_head 80 = .ok (.iconst 1, 1) := by decide +kernel
theorem dX5_head_81 : decode cX5_head 81 = .ok (.bastore, 1) := by decide +kernel
theorem dX5_head_82 : decode cX5_head 82 = .ok (.aload_n 0, 1) := by decide +kernel
theorem dX5_head_83 : decode cX5_head 83 = .ok (.getfield 41, 3) := by decide +kernel
theorem dX5_head_86 : decode cX5_head 86 = .ok (.iload_n 1, 1) := by decide +kernel
theorem dX5_head_87 : decode cX5_head 87 = .ok (.iload_n 2, 1) := by decide +kernel
theorem dX5_head_88 : decode cX5_head 88 = .ok (.iastore, 1) := by decide +kernel
theorem dX5_head_89 : decode cX5_head 89 = .ok (.aload_n 0, 1) := by decide +kernel
theorem dX5_head_90 : decode cX5_head 90 = .ok (.getfield 44, 3) := by decide +kernel
theorem dX5_head_93 : decode cX5_head 93 = .ok (.iload_n 1, 1) := by decide +kernel
theorem dX5_head_94 : decode cX5_head 94 = .ok (.iload_n 3, 1) := by decide +kernel
theorem dX5_head_95 : decode cX5_head 95 = .ok (.iastore, 1) := by decide +kernel
theorem dX5_head_96 : decode cX5_head 96 = .ok (.aload_n 0, 1) := by decide +kernel
theorem dX5_head_97 : decode cX5_head 97 = .ok (.getfield 47, 3) := by decide +kernel
theorem dX5_head_100 : decode cX5_head 100 = .ok (.iload_n 1, 1) := by decide +kernel
theorem dX5_head_101 : decode cX5_head 101 = .ok (.iload 4, 2) := by decide +kernel
theorem dX5_head_103 : decode cX5_head 103 = .ok (.iastore, 1) := by decide +kernel
theorem dX5_head_104 : decode cX5_head 104 = .ok (.aload_n 0, 1) := by decide +kernel
theorem dX5_head_105 : decode cX5_head 105 = .ok (.getfield 50, 3) := by decide +kernel
theorem dX5_head_108 : decode cX5_head 108 = .ok (.iload_n 1, 1) := by decide +kernel
theorem dX5_head_109 : decode cX5_head 109 = .ok (.dload 7, 2) := by decide +kernel
theorem dX5_head_111 : decode cX5_head 111 = .ok (.dastore, 1) := by decide +kernel
theorem dX5_head_112 : decode cX5_head 112 = .ok (.aload_n 0, 1) := by decide +kernel
theorem dX5_head_113 : decode cX5_head 113 = .ok (.getfield 53, 3) := by decide +kernel
theorem dX5_head_116 : decode cX5_head 116 = .ok (.iload_n 1, 1) := by decide +kernel
theorem dX5_head_117 : decode cX5_head 117 = .ok (.dconst 0, 1) := by decide +kernel
theorem dX5_head_118 : decode cX5_head 118 = .ok (.dastore, 1) := by decide +kernel
theorem dX5_head_119 : decode cX5_head 119 = .ok (.aload_n 0, 1) := by decide +kernel
theorem dX5_head_120 : decode cX5_head 120 = .ok (.getfield 56, 3) := by decide +kernel
theorem dX5_head_123 : decode cX5_head 123 = .ok (.iload_n 1, 1) := by decide +kernel
theorem dX5_head_124 : decode cX5_head 124 = .ok (.lconst 0, 1) := by decide +kernel
theorem dX5_head_125 : decode cX5_head 125 = .ok (.lastore, 1) := by decide +kernel
theorem dX5_head_126 : decode cX5_head 126 = .ok (.iconst 1, 1) := by decide +kernel
theorem dX5_head_127 : decode cX5_head 127 = .ok (.ireturn, 1) := by decide +kernel
theorem dX5_step_0 : decode cX5_step 0 = .ok (.aload_n 0, 1) := by decide +kernel
theorem dX5_step_1 : decode cX5_step 1 = .ok (.getfield 53, 3) := by decide +kernel
theorem dX5_step_4 : decode cX5_step 4 = .ok (.iload_n 1, 1) := by decide +kernel
theorem dX5_step_5 : decode cX5_step 5 = .ok (.daload, 1) := by decide +kernel
theorem dX5_step_6 : decode cX5_step 6 = .ok (.d2i, 1) := by decide +kernel
theorem dX5_step_7 : decode cX5_step 7 = .ok (.istore_n 2, 1) := by decide +kernel
theorem dX5_step_8 : decode cX5_step 8 = .ok (.aload_n 0, 1) := by decide +kernel
theorem dX5_step_9 : decode cX5_step 9 = .ok (.iconst 0, 1) := by decide +kernel
theorem dX5_step_10 : decode cX5_step 10 = .ok (.aload_n 0, 1) := by decide +kernel
theorem dX5_step_11 : decode cX5_step 11 = .ok (.getfield 41, 3) := by decide +kernel
theorem dX5_step_14 : decode cX5_step 14 = .ok (.iload_n 1, 1) := by decide +kernel
theorem dX5_step_15 : decode cX5_step 15 = .ok (.iaload, 1) := by decide +kernel
theorem dX5_step_16 : decode cX5_step 16 = .ok (.iload_n 2, 1) := by decide +kernel
theorem dX5_step_17 : decode cX5_step 17 = .ok (.invokevirtual 109, 3) := by decide +kernel
theorem dX5_step_20 : decode cX5_step 20 = .ok (.istore_n 3, 1) := by decide +kernel
theorem dX5_step_21 : decode cX5_step 21 = .ok (.iload_n 3, 1) := by decide +kernel
theorem dX5_step_22 : decode cX5_step 22 = .ok (.ifCond .eq 5, 3) := by decide +kernel
theorem dX5_step_25 : decode cX5_step 25 = .ok (.iload_n 3, 1) := by decide +kernel
theorem dX5_step_26 : decode cX5_step 26 = .ok (.ireturn, 1) := by decide +kernel
theorem dX5_step_27 : decode cX5_step 27 = .ok (.aload_n 0, 1) := by decide +kernel
theorem dX5_step_28 : decode cX5_step 28 = .ok (.iconst 0, 1) := by decide +kernel
theorem dX5_step_29 : decode cX5_step 29 = .ok (.aload_n 0, 1) := by decide +kernel
theorem dX5_step_30 : decode cX5_step 30 = .ok (.getfield 41, 3) := by decide +kernel
theorem dX5_step_33 : decode cX5_step 33 = .ok (.iload_n 1, 1) := by decide +kernel
theorem dX5_step_34 : decode cX5_step 34 = .ok (.iaload, 1) := by decide +kernel
theorem dX5_step_35 : decode cX5_step 35 = .ok (.iload_n 2, 1) := by decide +kernel
theorem dX5_step_36 : decode cX5_step 36 = .ok (.invokevirtual 121, 3) := by decide +kernel
theorem dX5_step_39 : decode cX5_step 39 = .ok (.dstore 4, 2) := by decide +kernel
theorem dX5_step_41 : decode cX5_step 41 = .ok (.aload_n 0, 1) := by decide +kernel
theorem dX5_step_42 : decode cX5_step 42 = .ok (.getfield 44, 3) := by decide +kernel
theorem dX5_step_45 : decode cX5_step 45 = .ok (.iload_n 1, 1) := by decide +kernel
theorem dX5_step_46 : decode cX5_step 46 = .ok (.iaload, 1) := by decide +kernel
theorem dX5_step_47 : decode cX5_step 47 = .ok (.ifCond .lt 80, 3) := by decide +kernel
theorem dX5_step_50 : decode cX5_step 50 = .ok (.aload_n 0, 1) := by decide +kernel
theorem dX5_step_51 : decode cX5_step 51 = .ok (.getfield 19, 3) := by decide +kernel
theorem dX5_step_54 : decode cX5_step 54 = .ok (.bipush 6, 2) := by decide +kernel
theorem dX5_step_56 : decode cX5_step 56 = .ok (.aload_n 0, 1) := by decide +kernel
theorem dX5_step_57 : decode cX5_step 57 = .ok (.getfield 44, 3) := by decide +kernel
theorem dX5_step_60 : decode cX5_step 60 = .ok (.iload_n 1, 1) := by decide +kernel
theorem dX5_step_61 : decode cX5_step 61 = .ok (.iaload, 1) := by decide +kernel
theorem dX5_step_62 : decode cX5_step 62 = .ok (.iadd, 1) := by decide +kernel
theorem dX5_step_63 : decode cX5_step 63 = .ok (.iaload, 1) := by decide +kernel
theorem dX5_step_64 : decode cX5_step 64 = .ok (.istore 6, 2) := by decide +kernel
theorem dX5_step_66 : decode cX5_step 66 = .ok (.iload 6, 2) := by decide +kernel
theorem dX5_step_68 : decode cX5_step 68 = .ok (.ifCond .lt 13, 3) := by decide +kernel
theorem dX5_step_71 : decode cX5_step 71 = .ok (.aload_n 0, 1) := by decide +kernel
theorem dX5_step_72 : decode cX5_step 72 = .ok (.getfield 9, 3) := by decide +kernel
theorem dX5_step_75 : decode cX5_step 75 = .ok (.iload 6, 2) := by decide +kernel
theorem dX5_step_77 : decode cX5_step 77 = .ok (.iaload, 1) := by decide +kernel
theorem dX5_step_78 : decode cX5_step 78 = .ok (.ifCond .ne 14, 3) := by decide +kernel
theorem dX5_step_81 : decode cX5_step 81 = .ok (.iload 6, 2) := by decide +kernel
theorem dX5_step_83 : decode cX5_step 83 = .ok (.ifCond .ge 7, 3) := by decide +kernel
theorem dX5_step_86 : decode cX5_step 86 = .ok (.iconst 1, 1) := by decide +kernel
theorem dX5_step_87 : decode cX5_step 87 = .ok (.goto 4, 3) := by decide +kernel
theorem dX5_step_90 : decode cX5_step 90 = .ok (.iconst 2, 1) := by decide +kernel
theorem dX5_step_91 : decode cX5_step 91 = .ok (.ireturn, 1) := by decide +kernel
theorem dX5_step_92 : decode cX5_step 92 = .ok (.dload 4, 2) := by decide +kernel
theorem dX5_step_94 : decode cX5_step 94 = .ok (.aload_n 0, 1) := by decide +kernel
theorem dX5_step_95 : decode cX5_step 95 = .ok (.getfield 15, 3) := by decide +kernel
theorem dX5_step_98 : decode cX5_step 98 = .ok (.bipush 16, 2) := by decide +kernel
theorem dX5_step_100 : decode cX5_step 100 = .ok (.iload 6, 2) := by decide +kernel
theorem dX5_step_102 : decode cX5_step 102 = .ok (.imul, 1) := by decide +kernel
theorem dX5_step_103 : decode cX5_step 103 = .ok (.aload_n 0, 1) := by decide +kernel
theorem dX5_step_104 : decode cX5_step 104 = .ok (.getfield 56, 3) := by decide +kernel
theorem dX5_step_107 : decode cX5_step 107 = .ok (.iload_n 1, 1) := by decide +kernel
theorem dX5_step_108 : decode cX5_step 108 = .ok (.laload, 1) := by decide +kernel
theorem dX5_step_109 : decode cX5_step 109 = .ok (.aload_n 0, 1) := by decide +kernel
theorem dX5_step_110 : decode cX5_step 110 = .ok (.getfield 9, 3) := by decide +kernel
theorem dX5_step_113 : decode cX5_step 113 = .ok (.iload 6, 2) := by decide +kernel
theorem dX5_step_115 : decode cX5_step 115 = .ok (.iaload, 1) := by decide +kernel
theorem dX5_step_116 : decode cX5_step 116 = .ok (.i2l, 1) := by decide +kernel
theorem dX5_step_117 : decode cX5_step 117 = .ok (.lrem, 1) := by decide +kernel
theorem dX5_step_118 : decode cX5_step 118 = .ok (.l2i, 1) := by decide +kernel
theorem dX5_step_119 : decode cX5_step 119 = .ok (.iadd, 1) := by decide +kernel
theorem dX5_step_120 : decode cX5_step 120 = .ok (.daload, 1) := by decide +kernel
theorem dX5_step_121 : decode cX5_step 121 = .ok (.dmul, 1) := by decide +kernel
theorem dX5_step_122 : decode cX5_step 122 = .ok (.invokestatic 140, 3) := by decide +kernel
theorem dX5_step_125 : decode cX5_step 125 = .ok (.dstore 4, 2) := by decide +kernel
theorem dX5_step_127 : decode cX5_step 127 = .ok (.iconst 0, 1) := by decide +kernel
theorem dX5_step_128 : decode cX5_step 128 = .ok (.istore 6, 2) := by decide +kernel
theorem dX5_step_130 : decode cX5_step 130 = .ok (.iload 6, 2) := by decide +kernel
theorem dX5_step_132 : decode cX5_step 132 = .ok (.iconst 3, 1) := by decide +kernel
theorem dX5_step_133 : decode cX5_step 133 = .ok (.if_icmp .ge 71, 3) := by decide +kernel
theorem dX5_step_136 : decode cX5_step 136 = .ok (.aload_n 0, 1) := by decide +kernel
theorem dX5_step_137 : decode cX5_step 137 = .ok (.getfield 47, 3) := by decide +kernel
theorem dX5_step_140 : decode cX5_step 140 = .ok (.iload_n 1, 1) := by decide +kernel
theorem dX5_step_141 : decode cX5_step 141 = .ok (.iaload, 1) := by decide +kernel
theorem dX5_step_142 : decode cX5_step 142 = .ok (.ifCond .lt 62, 3) := by decide +kernel
theorem dX5_step_145 : decode cX5_step 145 = .ok (.aload_n 0, 1) := by decide +kernel
theorem dX5_step_146 : decode cX5_step 146 = .ok (.getfield 31, 3) := by decide +kernel
theorem dX5_step_149 : decode cX5_step 149 = .ok (.aload_n 0, 1) := by decide +kernel
theorem dX5_step_150 : decode cX5_step 150 = .ok (.getfield 47, 3) := by decide +kernel
theorem dX5_step_153 : decode cX5_step 153 = .ok (.iload_n 1, 1) := by decide +kernel
theorem dX5_step_154 : decode cX5_step 154 = .ok (.iaload, 1) := by decide +kernel
theorem dX5_step_155 : decode cX5_step 155 = .ok (.iaload, 1) := by decide +kernel
theorem dX5_step_156 : decode cX5_step 156 = .ok (.ifCond .ge 7, 3) := by decide +kernel
theorem dX5_step_159 : decode cX5_step 159 = .ok (.iconst (-1), 1) := by decide +kernel
theorem dX5_step_160 : decode cX5_step 160 = .ok (.goto 19, 3) := by decide +kernel
theorem dX5_step_163 : decode cX5_step 163 = .ok (.aload_n 0, 1) := by decide +kernel
theorem dX5_step_164 : decode cX5_step 164 = .ok (.getfield 34, 3) := by decide +kernel
theorem dX5_step_167 : decode cX5_step 167 = .ok (.iconst 3, 1) := by decide +kernel
theorem dX5_step_168 : decode cX5_step 168 = .ok (.aload_n 0, 1) := by decide +kernel
theorem dX5_step_169 : decode cX5_step 169 = .ok (.getfield 47, 3) := by decide +kernel
theorem dX5_step_172 : decode cX5_step 172 = .ok (.iload_n 1, 1) := by decide +kernel
theorem dX5_step_173 : decode cX5_step 173 = .ok (.iaload, 1) := by decide +kernel
theorem dX5_step_174 : decode cX5_step 174 = .ok (.imul, 1) := by decide +kernel
theorem dX5_step_175 : decode cX5_step 175 = .ok (.iload 6, 2) := by decide +kernel
theorem dX5_step_177 : decode cX5_step 177 = .ok (.iadd, 1) := by decide +kernel
theorem dX5_step_178 : decode cX5_step 178 = .ok (.iaload, 1) := by decide +kernel
theorem dX5_step_179 : decode cX5_step 179 = .ok (.istore 7, 2) := by decide +kernel
theorem dX5_step_181 : decode cX5_step 181 = .ok (.iload 7, 2) := by decide +kernel
theorem dX5_step_183 : decode cX5_step 183 = .ok (.ifCond .ge 5, 3) := by decide +kernel
theorem dX5_step_186 : decode cX5_step 186 = .ok (.iconst 1, 1) := by decide +kernel
theorem dX5_step_187 : decode cX5_step 187 = .ok (.ireturn, 1) := by decide +kernel
theorem dX5_step_188 : decode cX5_step 188 = .ok (.aload_n 0, 1) := by decide +kernel
theorem dX5_step_189 : decode cX5_step 189 = .ok (.iload 7, 2) := by decide +kernel
theorem dX5_step_191 : decode cX5_step 191 = .ok (.dload 4, 2) := by decide +kernel
theorem dX5_step_193 : decode cX5_step 193 = .ok (.invokevirtual 150, 3) := by decide +kernel
theorem dX5_step_196 : decode cX5_step 196 = .ok (.dstore 4, 2) := by decide +kernel
theorem dX5_step_198 : decode cX5_step 198 = .ok (.iinc 6 1, 3) := by decide +kernel
theorem dX5_step_201 : decode cX5_step 201 = .ok (.goto (-71), 3) := by decide +kernel
theorem dX5_step_204 : decode cX5_step 204 = .ok (.aload_n 0, 1) := by decide +kernel
theorem dX5_step_205 : decode cX5_step 205 = .ok (.getfield 56, 3) := by decide +kernel
theorem dX5_step_208 : decode cX5_step 208 = .ok (.iload_n 1, 1) := by decide +kernel
theorem dX5_step_209 : decode cX5_step 209 = .ok (.laload, 1) := by decide +kernel
theorem dX5_step_210 : decode cX5_step 210 = .ok (.ldc2_w 162, 3) := by decide +kernel
theorem dX5_step_213 : decode cX5_step 213 = .ok (.lrem, 1) := by decide +kernel
theorem dX5_step_214 : decode cX5_step 214 = .ok (.l2i, 1) := by decide +kernel
theorem dX5_step_215 : decode cX5_step 215 = .ok (.istore 6, 2) := by decide +kernel
theorem dX5_step_217 : decode cX5_step 217 = .ok (.aload_n 0, 1) := by decide +kernel
theorem dX5_step_218 : decode cX5_step 218 = .ok (.getfield 60, 3) := by decide +kernel
theorem dX5_step_221 : decode cX5_step 221 = .ok (.iload 6, 2) := by decide +kernel
theorem dX5_step_223 : decode cX5_step 223 = .ok (.aload_n 0, 1) := by decide +kernel
theorem dX5_step_224 : decode cX5_step 224 = .ok (.getfield 60, 3) := by decide +kernel
theorem dX5_step_227 : decode cX5_step 227 = .ok (.iload 6, 2) := by decide +kernel
theorem dX5_step_229 : decode cX5_step 229 = .ok (.daload, 1) := by decide +kernel
theorem dX5_step_230 : decode cX5_step 230 = .ok (.dload 4, 2) := by decide +kernel
theorem dX5_step_232 : decode cX5_step 232 = .ok (.dadd, 1) := by decide +kernel
theorem dX5_step_233 : decode cX5_step 233 = .ok (.invokestatic 140, 3) := by decide +kernel
theorem dX5_step_236 : decode cX5_step 236 = .ok (.dastore, 1) := by decide +kernel
theorem dX5_step_237 : decode cX5_step 237 = .ok (.aload_n 0, 1) := by decide +kernel
theorem dX5_step_238 : decode cX5_step 238 = .ok (.getfield 9, 3) := by decide +kernel
theorem dX5_step_241 : decode cX5_step 241 = .ok (.aload_n 0, 1) := by decide +kernel
theorem dX5_step_242 : decode cX5_step 242 = .ok (.getfield 19, 3) := by decide +kernel
theorem dX5_step_245 : decode cX5_step 245 = .ok (.aload_n 0, 1) := by decide +kernel
theorem dX5_step_246 : decode cX5_step 246 = .ok (.getfield 41, 3) := by decide +kernel
theorem dX5_step_249 : decode cX5_step 249 = .ok (.iload_n 1, 1) := by decide +kernel
theorem dX5_step_250 : decode cX5_step 250 = .ok (.iaload, 1) := by decide +kernel
theorem dX5_step_251 : decode cX5_step 251 = .ok (.iaload, 1) := by decide +kernel
theorem dX5_step_252 : decode cX5_step 252 = .ok (.iaload, 1) := by decide +kernel
theorem dX5_step_253 : decode cX5_step 253 = .ok (.i2d, 1) := by decide +kernel
theorem dX5_step_254 : decode cX5_step 254 = .ok (.dstore 7, 2) := by decide +kernel
theorem dX5_step_256 : decode cX5_step 256 = .ok (.aload_n 0, 1) := by decide +kernel
theorem dX5_step_257 : decode cX5_step 257 = .ok (.getfield 53, 3) := by decide +kernel
theorem dX5_step_260 : decode cX5_step 260 = .ok (.iload_n 1, 1) := by decide +kernel
theorem dX5_step_261 : decode cX5_step 261 = .ok (.daload, 1) := by decide +kernel
theorem dX5_step_262 : decode cX5_step 262 = .ok (.aload_n 0, 1) := by decide +kernel
theorem dX5_step_263 : decode cX5_step 263 = .ok (.getfield 50, 3) := by decide +kernel
theorem dX5_step_266 : decode cX5_step 266 = .ok (.iload_n 1, 1) := by decide +kernel
theorem dX5_step_267 : decode cX5_step 267 = .ok (.daload, 1) := by decide +kernel
theorem dX5_step_268 : decode cX5_step 268 = .ok (.dadd, 1) := by decide +kernel
theorem dX5_step_269 : decode cX5_step 269 = .ok (.dload 7, 2) := by decide +kernel
theorem dX5_step_271 : decode cX5_step 271 = .ok (.drem, 1) := by decide +kernel
theorem dX5_step_272 : decode cX5_step 272 = .ok (.dstore 9, 2) := by decide +kernel
theorem dX5_step_274 : decode cX5_step 274 = .ok (.dload 9, 2) := by decide +kernel
theorem dX5_step_276 : decode cX5_step 276 = .ok (.dconst 0, 1) := by decide +kernel
theorem dX5_step_277 : decode cX5_step 277 = .ok (.dcmp .g, 1) := by decide +kernel
theorem dX5_step_278 : decode cX5_step 278 = .ok (.ifCond .ge 11, 3) := by decide +kernel
theorem dX5_step_281 : decode cX5_step 281 = .ok (.dload 9, 2) := by decide +kernel
theorem dX5_step_283 : decode cX5_step 283 = .ok (.dload 7, 2) := by decide +kernel
theorem dX5_step_285 : decode cX5_step 285 = .ok (.dadd, 1) := by decide +kernel
theorem dX5_step_286 : decode cX5_step 286 = .ok (.goto 5, 3) := by decide +kernel
theorem dX5_step_289 : decode cX5_step 289 = .ok (.dload 9, 2) := by decide +kernel
theorem dX5_step_291 : decode cX5_step 291 = .ok (.dstore 9, 2) := by decide +kernel
theorem dX5_step_293 : decode cX5_step 293 = .ok (.aload_n 0, 1) := by decide +kernel
theorem dX5_step_294 : decode cX5_step 294 = .ok (.getfield 53, 3) := by decide +kernel
theorem dX5_step_297 : decode cX5_step 297 = .ok (.iload_n 1, 1) := by decide +kernel
theorem dX5_step_298 : decode cX5_step 298 = .ok (.dload 9, 2) := by decide +kernel
theorem dX5_step_300 : decode cX5_step 300 = .ok (.dload 7, 2) := by decide +kernel
theorem dX5_step_302 : decode cX5_step 302 = .ok (.dcmp .g, 1) := by decide +kernel
theorem dX5_step_303 : decode cX5_step 303 = .ok (.ifCond .ge 8, 3) := by decide +kernel
theorem dX5_step_306 : decode cX5_step 306 = .ok (.dload 9, 2) := by decide +kernel
theorem dX5_step_308 : decode cX5_step 308 = .ok (.goto 4, 3) := by decide +kernel
theorem dX5_step_311 : decode cX5_step 311 = .ok (.dconst 0, 1) := by decide +kernel
theorem dX5_step_312 : decode cX5_step 312 = .ok (.dastore, 1) := by decide +kernel
theorem dX5_step_313 : decode cX5_step 313 = .ok (.aload_n 0, 1) := by decide +kernel
theorem dX5_step_314 : decode cX5_step 314 = .ok (.getfield 56, 3) := by decide +kernel
theorem dX5_step_317 : decode cX5_step 317 = .ok (.iload_n 1, 1) := by decide +kernel
theorem dX5_step_318 : decode cX5_step 318 = .ok (.dup2, 1) := by decide +kernel
theorem dX5_step_319 : decode cX5_step 319 = .ok (.laload, 1) := by decide +kernel
theorem dX5_step_320 : decode cX5_step 320 = .ok (.lconst 1, 1) := by decide +kernel
theorem dX5_step_321 : decode cX5_step 321 = .ok (.ladd, 1) := by decide +kernel
theorem dX5_step_322 : decode cX5_step 322 = .ok (.lastore, 1) := by decide +kernel
theorem dX5_step_323 : decode cX5_step 323 = .ok (.iconst 0, 1) := by decide +kernel
theorem dX5_step_324 : decode cX5_step 324 = .ok (.ireturn, 1) := by decide +kernel
theorem dX5_play_0 : decode cX5_play 0 = .ok (.iload_n 1, 1) := by decide +kernel
theorem dX5_play_1 : decode cX5_play 1 = .ok (.iconst 0, 1) := by decide +kernel
theorem dX5_play_2 : decode cX5_play 2 = .ok (.iconst 3, 1) := by decide +kernel
theorem dX5_play_3 : decode cX5_play 3 = .ok (.invokestatic 93, 3) := by decide +kernel
theorem dX5_play_6 : decode cX5_play 6 = .ok (.ifCond .eq 22, 3) := by decide +kernel
theorem dX5_play_9 : decode cX5_play 9 = .ok (.aload_n 0, 1) := by decide +kernel
theorem dX5_play_10 : decode cX5_play 10 = .ok (.getfield 37, 3) := by decide +kernel
theorem dX5_play_13 : decode cX5_play 13 = .ok (.iload_n 1, 1) := by decide +kernel
theorem dX5_play_14 : decode cX5_play 14 = .ok (.baload, 1) := by decide +kernel
theorem dX5_play_15 : decode cX5_play 15 = .ok (.ifCond .eq 13, 3) := by decide +kernel
theorem dX5_play_18 : decode cX5_play 18 = .ok (.iload_n 2, 1) := by decide +kernel
theorem dX5_play_19 : decode cX5_play 19 = .ok (.iconst 0, 1) := by decide +kernel
theorem dX5_play_20 : decode cX5_play 20 = .ok (.bipush 64, 2) := by decide +kernel
theorem dX5_play_22 : decode cX5_play 22 = .ok (.invokestatic 93, 3) := by decide +kernel
theorem dX5_play_25 : decode cX5_play 25 = .ok (.ifCond .ne 5, 3) := by decide +kernel
theorem dX5_play_28 : decode cX5_play 28 = .ok (.iconst (-1), 1) := by decide +kernel
theorem dX5_play_29 : decode cX5_play 29 = .ok (.ireturn, 1) := by decide +kernel
theorem dX5_play_30 : decode cX5_play 30 = .ok (.aload_n 0, 1) := by decide +kernel
theorem dX5_play_31 : decode cX5_play 31 = .ok (.iconst 0, 1) := by decide +kernel
theorem dX5_play_32 : decode cX5_play 32 = .ok (.putfield 164, 3) := by decide +kernel
theorem dX5_play_35 : decode cX5_play 35 = .ok (.iconst 0, 1) := by decide +kernel
theorem dX5_play_36 : decode cX5_play 36 = .ok (.istore_n 3, 1) := by decide +kernel
theorem dX5_play_37 : decode cX5_play 37 = .ok (.iload_n 3, 1) := by decide +kernel
theorem dX5_play_38 : decode cX5_play 38 = .ok (.iload_n 2, 1) := by decide +kernel
theorem dX5_play_39 : decode cX5_play 39 = .ok (.if_icmp .ge 37, 3) := by decide +kernel
theorem dX5_play_42 : decode cX5_play 42 = .ok (.aload_n 0, 1) := by decide +kernel
theorem dX5_play_43 : decode cX5_play 43 = .ok (.getfield 164, 3) := by decide +kernel
theorem dX5_play_46 : decode cX5_play 46 = .ok (.ifCond .ne 30, 3) := by decide +kernel
theorem dX5_play_49 : decode cX5_play 49 = .ok (.aload_n 0, 1) := by decide +kernel
theorem dX5_play_50 : decode cX5_play 50 = .ok (.aload_n 0, 1) := by decide +kernel
theorem dX5_play_51 : decode cX5_play 51 = .ok (.iload_n 1, 1) := by decide +kernel
theorem dX5_play_52 : decode cX5_play 52 = .ok (.invokevirtual 167, 3) := by decide +kernel
theorem dX5_play_55 : decode cX5_play 55 = .ok (.putfield 164, 3) := by decide +kernel
theorem dX5_play_58 : decode cX5_play 58 = .ok (.aload_n 0, 1) := by decide +kernel
theorem dX5_play_59 : decode cX5_play 59 = .ok (.getfield 164, 3) := by decide +kernel
theorem dX5_play_62 : decode cX5_play 62 = .ok (.ifCond .ne 9, 3) := by decide +kernel
theorem dX5_play_65 : decode cX5_play 65 = .ok (.iload_n 3, 1) := by decide +kernel
theorem dX5_play_66 : decode cX5_play 66 = .ok (.iconst 1, 1) := by decide +kernel
theorem dX5_play_67 : decode cX5_play 67 = .ok (.iadd, 1) := by decide +kernel
theorem dX5_play_68 : decode cX5_play 68 = .ok (.goto 4, 3) := by decide +kernel
theorem dX5_play_71 : decode cX5_play 71 = .ok (.iload_n 3, 1) := by decide +kernel
