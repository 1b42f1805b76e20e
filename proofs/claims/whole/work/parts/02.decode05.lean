theorem dX4_tell_5 : decode cX4_tell 5 = .ok (.iconst 1, 1) := by decide +kernel
theorem dX4_tell_6 : decode cX4_tell 6 = .ok (.ireturn, 1) := by decide +kernel
theorem dX4_rowsOf_0 : decode cX4_rowsOf 0 = .ok (.iload_n 1, 1) := by decide +kernel
theorem dX4_rowsOf_1 : decode cX4_rowsOf 1 = .ok (.ifCond .eq 10, 3) := by decide +kernel
theorem dX4_rowsOf_4 : decode cX4_rowsOf 4 = .ok (.aload_n 0, 1) := by decide +kernel
theorem dX4_rowsOf_5 : decode cX4_rowsOf 5 = .ok (.getfield 22, 3) := by decide +kernel
theorem dX4_rowsOf_8 : decode cX4_rowsOf 8 = .ok (.goto 7, 3) := by decide +kernel
theorem dX4_rowsOf_11 : decode cX4_rowsOf 11 = .ok (.aload_n 0, 1) := by decide +kernel
theorem dX4_rowsOf_12 : decode cX4_rowsOf 12 = .ok (.getfield 18, 3) := by decide +kernel
theorem dX4_rowsOf_15 : decode cX4_rowsOf 15 = .ok (.areturn, 1) := by decide +kernel
theorem dX4_isSetHead_0 : decode cX4_isSetHead 0 = .ok (.iload_n 1, 1) := by decide +kernel
theorem dX4_isSetHead_1 : decode cX4_isSetHead 1 = .ok (.iconst 4, 1) := by decide +kernel
theorem dX4_isSetHead_2 : decode cX4_isSetHead 2 = .ok (.invokestatic 58, 3) := by decide +kernel
theorem dX4_isSetHead_5 : decode cX4_isSetHead 5 = .ok (.ifCond .eq 16, 3) := by decide +kernel
theorem dX4_isSetHead_8 : decode cX4_isSetHead 8 = .ok (.aload_n 0, 1) := by decide +kernel
theorem dX4_isSetHead_9 : decode cX4_isSetHead 9 = .ok (.getfield 39, 3) := by decide +kernel
theorem dX4_isSetHead_12 : decode cX4_isSetHead 12 = .ok (.iload_n 1, 1) := by decide +kernel
theorem dX4_isSetHead_13 : decode cX4_isSetHead 13 = .ok (.aaload, 1) := by decide +kernel
theorem dX4_isSetHead_14 : decode cX4_isSetHead 14 = .ok (.ifnull 7, 3) := by decide +kernel
theorem dX4_isSetHead_17 : decode cX4_isSetHead 17 = .ok (.iconst 1, 1) := by decide +kernel
theorem dX4_isSetHead_18 : decode cX4_isSetHead 18 = .ok (.goto 4, 3) := by decide +kernel
theorem dX4_isSetHead_21 : decode cX4_isSetHead 21 = .ok (.iconst 0, 1) := by decide +kernel
theorem dX4_isSetHead_22 : decode cX4_isSetHead 22 = .ok (.ireturn, 1) := by decide +kernel
theorem dX4_step_0 : decode cX4_step 0 = .ok (.aload_n 0, 1) := by decide +kernel
theorem dX4_step_1 : decode cX4_step 1 = .ok (.getfield 18, 3) := by decide +kernel
theorem dX4_step_4 : decode cX4_step 4 = .ok (.aload_n 1, 1) := by decide +kernel
theorem dX4_step_5 : decode cX4_step 5 = .ok (.getfield 148, 3) := by decide +kernel
theorem dX4_step_8 : decode cX4_step 8 = .ok (.aaload, 1) := by decide +kernel
theorem dX4_step_9 : decode cX4_step 9 = .ok (.astore_n 2, 1) := by decide +kernel
theorem dX4_step_10 : decode cX4_step 10 = .ok (.aload_n 2, 1) := by decide +kernel
theorem dX4_step_11 : decode cX4_step 11 = .ok (.ifnonnull 5, 3) := by decide +kernel
theorem dX4_step_14 : decode cX4_step 14 = .ok (.iconst 1, 1) := by decide +kernel
theorem dX4_step_15 : decode cX4_step 15 = .ok (.ireturn, 1) := by decide +kernel
theorem dX4_step_16 : decode cX4_step 16 = .ok (.aload_n 1, 1) := by decide +kernel
theorem dX4_step_17 : decode cX4_step 17 = .ok (.getfield 141, 3) := by decide +kernel
theorem dX4_step_20 : decode cX4_step 20 = .ok (.d2i, 1) := by decide +kernel
theorem dX4_step_21 : decode cX4_step 21 = .ok (.istore_n 3, 1) := by decide +kernel
theorem dX4_step_22 : decode cX4_step 22 = .ok (.iload_n 3, 1) := by decide +kernel
theorem dX4_step_23 : decode cX4_step 23 = .ok (.aload_n 2, 1) := by decide +kernel
theorem dX4_step_24 : decode cX4_step 24 = .ok (.arraylength, 1) := by decide +kernel
theorem dX4_step_25 : decode cX4_step 25 = .ok (.invokestatic 58, 3) := by decide +kernel
theorem dX4_step_28 : decode cX4_step 28 = .ok (.ifCond .ne 5, 3) := by decide +kernel
theorem dX4_step_31 : decode cX4_step 31 = .ok (.iconst 2, 1) := by decide +kernel
theorem dX4_step_32 : decode cX4_step 32 = .ok (.ireturn, 1) := by decide +kernel
theorem dX4_step_33 : decode cX4_step 33 = .ok (.aload_n 2, 1) := by decide +kernel
theorem dX4_step_34 : decode cX4_step 34 = .ok (.iload_n 3, 1) := by decide +kernel
theorem dX4_step_35 : decode cX4_step 35 = .ok (.daload, 1) := by decide +kernel
theorem dX4_step_36 : decode cX4_step 36 = .ok (.dstore 4, 2) := by decide +kernel
theorem dX4_step_38 : decode cX4_step 38 = .ok (.aload_n 1, 1) := by decide +kernel
theorem dX4_step_39 : decode cX4_step 39 = .ok (.getfield 151, 3) := by decide +kernel
theorem dX4_step_42 : decode cX4_step 42 = .ok (.iconst (-1), 1) := by decide +kernel
theorem dX4_step_43 : decode cX4_step 43 = .ok (.if_icmp .eq 51, 3) := by decide +kernel
theorem dX4_step_46 : decode cX4_step 46 = .ok (.aload_n 0, 1) := by decide +kernel
theorem dX4_step_47 : decode cX4_step 47 = .ok (.getfield 22, 3) := by decide +kernel
theorem dX4_step_50 : decode cX4_step 50 = .ok (.aload_n 1, 1) := by decide +kernel
theorem dX4_step_51 : decode cX4_step 51 = .ok (.getfield 151, 3) := by decide +kernel
theorem dX4_step_54 : decode cX4_step 54 = .ok (.aaload, 1) := by decide +kernel
theorem dX4_step_55 : decode cX4_step 55 = .ok (.astore 6, 2) := by decide +kernel
theorem dX4_step_57 : decode cX4_step 57 = .ok (.aload 6, 2) := by decide +kernel
theorem dX4_step_59 : decode cX4_step 59 = .ok (.ifnonnull 5, 3) := by decide +kernel
theorem dX4_step_62 : decode cX4_step 62 = .ok (.iconst 1, 1) := by decide +kernel
theorem dX4_step_63 : decode cX4_step 63 = .ok (.ireturn, 1) := by decide +kernel
theorem dX4_step_64 : decode cX4_step 64 = .ok (.aload 6, 2) := by decide +kernel
theorem dX4_step_66 : decode cX4_step 66 = .ok (.arraylength, 1) := by decide +kernel
theorem dX4_step_67 : decode cX4_step 67 = .ok (.ifCond .ne 5, 3) := by decide +kernel
theorem dX4_step_70 : decode cX4_step 70 = .ok (.iconst 2, 1) := by decide +kernel
theorem dX4_step_71 : decode cX4_step 71 = .ok (.ireturn, 1) := by decide +kernel
theorem dX4_step_72 : decode cX4_step 72 = .ok (.dload 4, 2) := by decide +kernel
theorem dX4_step_74 : decode cX4_step 74 = .ok (.aload 6, 2) := by decide +kernel
theorem dX4_step_76 : decode cX4_step 76 = .ok (.aload_n 1, 1) := by decide +kernel
theorem dX4_step_77 : decode cX4_step 77 = .ok (.getfield 145, 3) := by decide +kernel
theorem dX4_step_80 : decode cX4_step 80 = .ok (.aload 6, 2) := by decide +kernel
theorem dX4_step_82 : decode cX4_step 82 = .ok (.arraylength, 1) := by decide +kernel
theorem dX4_step_83 : decode cX4_step 83 = .ok (.i2l, 1) := by decide +kernel
theorem dX4_step_84 : decode cX4_step 84 = .ok (.lrem, 1) := by decide +kernel
theorem dX4_step_85 : decode cX4_step 85 = .ok (.l2i, 1) := by decide +kernel
theorem dX4_step_86 : decode cX4_step 86 = .ok (.daload, 1) := by decide +kernel
theorem dX4_step_87 : decode cX4_step 87 = .ok (.dmul, 1) := by decide +kernel
theorem dX4_step_88 : decode cX4_step 88 = .ok (.invokestatic 154, 3) := by decide +kernel
theorem dX4_step_91 : decode cX4_step 91 = .ok (.f2d, 1) := by decide +kernel
theorem dX4_step_92 : decode cX4_step 92 = .ok (.dstore 4, 2) := by decide +kernel
theorem dX4_step_94 : decode cX4_step 94 = .ok (.aload_n 1, 1) := by decide +kernel
theorem dX4_step_95 : decode cX4_step 95 = .ok (.getfield 157, 3) := by decide +kernel
theorem dX4_step_98 : decode cX4_step 98 = .ok (.iconst (-1), 1) := by decide +kernel
theorem dX4_step_99 : decode cX4_step 99 = .ok (.if_icmp .eq 38, 3) := by decide +kernel
theorem dX4_step_102 : decode cX4_step 102 = .ok (.aload_n 0, 1) := by decide +kernel
theorem dX4_step_103 : decode cX4_step 103 = .ok (.getfield 33, 3) := by decide +kernel
theorem dX4_step_106 : decode cX4_step 106 = .ok (.aload_n 1, 1) := by decide +kernel
theorem dX4_step_107 : decode cX4_step 107 = .ok (.getfield 157, 3) := by decide +kernel
theorem dX4_step_110 : decode cX4_step 110 = .ok (.aaload, 1) := by decide +kernel
theorem dX4_step_111 : decode cX4_step 111 = .ok (.astore 6, 2) := by decide +kernel
theorem dX4_step_113 : decode cX4_step 113 = .ok (.aload 6, 2) := by decide +kernel
theorem dX4_step_115 : decode cX4_step 115 = .ok (.ifnull 11, 3) := by decide +kernel
theorem dX4_step_118 : decode cX4_step 118 = .ok (.aload 6, 2) := by decide +kernel
theorem dX4_step_120 : decode cX4_step 120 = .ok (.invokevirtual 160, 3) := by decide +kernel
theorem dX4_step_123 : decode cX4_step 123 = .ok (.ifCond .eq 5, 3) := by decide +kernel
theorem dX4_step_126 : decode cX4_step 126 = .ok (.iconst 1, 1) := by decide +kernel
theorem dX4_step_127 : decode cX4_step 127 = .ok (.ireturn, 1) := by decide +kernel
theorem dX4_step_128 : decode cX4_step 128 = .ok (.aload 6, 2) := by decide +kernel
theorem dX4_step_130 : decode cX4_step 130 = .ok (.dload 4, 2) := by decide +kernel
theorem dX4_step_132 : decode cX4_step 132 = .ok (.invokevirtual 164, 3) := by decide +kernel
theorem dX4_step_135 : decode cX4_step 135 = .ok (.dstore 4, 2) := by decide +kernel
theorem dX4_step_137 : decode cX4_step 137 = .ok (.aload_n 0, 1) := by decide +kernel
theorem dX4_step_138 : decode cX4_step 138 = .ok (.aload_n 1, 1) := by decide +kernel
theorem dX4_step_139 : decode cX4_step 139 = .ok (.getfield 145, 3) := by decide +kernel
theorem dX4_step_142 : decode cX4_step 142 = .ok (.ldc2_w 167, 3) := by decide +kernel
theorem dX4_step_145 : decode cX4_step 145 = .ok (.lrem, 1) := by decide +kernel
theorem dX4_step_146 : decode cX4_step 146 = .ok (.l2i, 1) := by decide +kernel
theorem dX4_step_147 : decode cX4_step 147 = .ok (.dload 4, 2) := by decide +kernel
theorem dX4_step_149 : decode cX4_step 149 = .ok (.invokevirtual 169, 3) := by decide +kernel
theorem dX4_step_152 : decode cX4_step 152 = .ok (.aload_n 1, 1) := by decide +kernel
theorem dX4_step_153 : decode cX4_step 153 = .ok (.aload_n 2, 1) := by decide +kernel
theorem dX4_step_154 : decode cX4_step 154 = .ok (.arraylength, 1) := by decide +kernel
theorem dX4_step_155 : decode cX4_step 155 = .ok (.invokevirtual 172, 3) := by decide +kernel
theorem dX4_step_158 : decode cX4_step 158 = .ok (.iconst 0, 1) := by decide +kernel
theorem dX4_step_159 : decode cX4_step 159 = .ok (.ireturn, 1) := by decide +kernel
theorem dX4_addToMix_0 : decode cX4_addToMix 0 = .ok (.aload_n 0, 1) := by decide +kernel
theorem dX4_addToMix_1 : decode cX4_addToMix 1 = .ok (.getfield 43, 3) := by decide +kernel
theorem dX4_addToMix_4 : decode cX4_addToMix 4 = .ok (.iload_n 1, 1) := by decide +kernel
theorem dX4_addToMix_5 : decode cX4_addToMix 5 = .ok (.aload_n 0, 1) := by decide +kernel
theorem dX4_addToMix_6 : decode cX4_addToMix 6 = .ok (.getfield 43, 3) := by decide +kernel
theorem dX4_addToMix_9 : decode cX4_addToMix 9 = .ok (.iload_n 1, 1) := by decide +kernel
theorem dX4_addToMix_10 : decode cX4_addToMix 10 = .ok (.faload, 1) := by decide +kernel
theorem dX4_addToMix_11 : decode cX4_addToMix 11 = .ok (.f2d, 1) := by decide +kernel
theorem dX4_addToMix_12 : decode cX4_addToMix 12 = .ok (.dload_n 2, 1) := by decide +kernel
theorem dX4_addToMix_13 : decode cX4_addToMix 13 = .ok (.dadd, 1) := by decide +kernel
theorem dX4_addToMix_14 : decode cX4_addToMix 14 = .ok (.invokestatic 154, 3) := by decide +kernel
theorem dX4_addToMix_17 : decode cX4_addToMix 17 = .ok (.fastore, 1) := by decide +kernel
theorem dX4_addToMix_18 : decode cX4_addToMix 18 = .ok (.return_, 1) := by decide +kernel
theorem dX5_init_0 : decode cX5_init 0 = .ok (.aload_n 0, 1) := by decide +kernel
theorem dX5_init_1 : decode cX5_init 1 = .ok (.invokespecial 3, 3) := by decide +kernel
theorem dX5_init_4 : decode cX5_init 4 = .ok (.aload_n 0, 1) := by decide +kernel
theorem dX5_init_5 : decode cX5_init 5 = .ok (.sipush 600, 3) := by decide +kernel
theorem dX5_init_8 : decode cX5_init 8 = .ok (.newarray .int, 2) := by decide +kernel
theorem dX5_init_10 : decode cX5_init 10 = .ok (.putfield 9, 3) := by decide +kernel
theorem dX5_init_13 : decode cX5_init 13 = .ok (.aload_n 0, 1) := by decide +kernel
theorem dX5_init_14 : decode cX5_init 14 = .ok (.sipush 9600, 3) := by decide +kernel
theorem dX5_init_17 : decode cX5_init 17 = .ok (.newarray .double, 2) := by decide +kernel
theorem dX5_init_19 : decode cX5_init 19 = .ok (.putfield 15, 3) := by decide +kernel
theorem dX5_init_22 : decode cX5_init 22 = .ok (.aload_n 0, 1) := by decide +kernel
theorem dX5_init_23 : decode cX5_init 23 = .ok (.bipush 12, 2) := by decide +kernel
theorem dX5_init_25 : decode cX5_init 25 = .ok (.newarray .int, 2) := by decide +kernel
theorem dX5_init_27 : decode cX5_init 27 = .ok (.dup, 1) := by decide +kernel
theorem dX5_init_28 : decode cX5_init 28 = .ok (.iconst 0, 1) := by decide +kernel
theorem dX5_init_29 : decode cX5_init 29 = .ok (.iconst (-1), 1) := by decide +kernel
theorem dX5_init_30 : decode cX5_init 30 = .ok (.iastore, 1) := by decide +kernel
theorem dX5_init_31 : decode cX5_init 31 = .ok (.dup, 1) := by decide +kernel
theorem dX5_init_32 : decode cX5_init 32 = .ok (.iconst 1, 1) := by decide +kernel
theorem dX5_init_33 : decode cX5_init 33 = .ok (.iconst (-1), 1) := by decide +kernel
theorem dX5_init_34 : decode cX5_init 34 = .ok (.iastore, 1) := by decide +kernel
theorem dX5_init_35 : decode cX5_init 35 = .ok (.dup, 1) := by decide +kernel
theorem dX5_init_36 : decode cX5_init 36 = .ok (.iconst 2, 1) := by decide +kernel
theorem dX5_init_37 : decode cX5_init 37 = .ok (.iconst (-1), 1) := by decide +kernel
theorem dX5_init_38 : decode cX5_init 38 = .ok (.iastore, 1) := by decide +kernel
theorem dX5_init_39 : decode cX5_init 39 = .ok (.dup, 1) := by decide +kernel
theorem dX5_init_40 : decode cX5_init 40 = .ok (.iconst 3, 1) := by decide +kernel
theorem dX5_init_41 : decode cX5_init 41 = .ok (.iconst (-1), 1) := by decide +kernel
theorem dX5_init_42 : decode cX5_init 42 = .ok (.iastore, 1) := by decide +kernel
theorem dX5_init_43 : decode cX5_init 43 = .ok (.dup, 1) := by decide +kernel
theorem dX5_init_44 : decode cX5_init 44 = .ok (.iconst 4, 1) := by decide +kernel
theorem dX5_init_45 : decode cX5_init 45 = .ok (.iconst (-1), 1) := by decide +kernel
theorem dX5_init_46 : decode cX5_init 46 = .ok (.iastore, 1) := by decide +kernel
theorem dX5_init_47 : decode cX5_init 47 = .ok (.dup, 1) := by decide +kernel
theorem dX5_init_48 : decode cX5_init 48 = .ok (.iconst 5, 1) := by decide +kernel
theorem dX5_init_49 : decode cX5_init 49 = .ok (.iconst (-1), 1) := by decide +kernel
theorem dX5_init_50 : decode cX5_init 50 = .ok (.iastore, 1) := by decide +kernel
theorem dX5_init_51 : decode cX5_init 51 = .ok (.dup, 1) := by decide +kernel
theorem dX5_init_52 : decode cX5_init 52 = .ok (.bipush 6, 2) := by decide +kernel
theorem dX5_init_54 : decode cX5_init 54 = .ok (.iconst (-1), 1) := by decide +kernel
theorem dX5_init_55 : decode cX5_init 55 = .ok (.iastore, 1) := by decide +kernel
theorem dX5_init_56 : decode cX5_init 56 = .ok (.dup, 1) := by decide +kernel
theorem dX5_init_57 : decode cX5_init 57 = .ok (.bipush 7, 2) := by decide +kernel
theorem dX5_init_59 : decode cX5_init 59 = .ok (.iconst (-1), 1) := by decide +kernel
theorem dX5_init_60 : decode cX5_init 60 = .ok (.iastore, 1) := by decide +kernel
theorem dX5_init_61 : decode cX5_init 61 = .ok (.dup, 1) := by decide +kernel
theorem dX5_init_62 : decode cX5_init 62 = .ok (.bipush 8, 2) := by decide +kernel
theorem dX5_init_64 : decode cX5_init 64 = .ok (.iconst (-1), 1) := by decide +kernel
theorem dX5_init_65 : decode cX5_init 65 = .ok (.iastore, 1) := by decide +kernel
theorem dX5_init_66 : decode cX5_init 66 = .ok (.dup, 1) := by decide +kernel
theorem dX5_init_67 : decode cX5_init 67 = .ok (.bipush 9, 2) := by decide +kernel
theorem dX5_init_69 : decode cX5_init 69 = .ok (.iconst (-1), 1) := by decide +kernel
theorem dX5_init_70 : decode cX5_init 70 = .ok (.iastore, 1) := by decide +kernel
theorem dX5_init_71 : decode cX5_init 71 = .ok (.dup, 1) := by decide +kernel
theorem dX5_init_72 : decode cX5_init 72 = .ok (.bipush 10, 2) := by decide +kernel
theorem dX5_init_74 : decode cX5_init 74 = .ok (.iconst (-1), 1) := by decide +kernel
theorem dX5_init_75 : decode cX5_init 75 = .ok (.iastore, 1) := by decide +kernel
theorem dX5_init_76 : decode cX5_init 76 = .ok (.dup, 1) := by decide +kernel
theorem dX5_init_77 : decode cX5_init 77 = .ok (.bipush 11, 2) := by decide +kernel
theorem dX5_init_79 : decode cX5_init 79 = .ok (.iconst (-1), 1) := by decide +kernel
theorem dX5_init_80 : decode cX5_init 80 = .ok (.iastore, 1) := by decide +kernel
theorem dX5_init_81 : decode cX5_init 81 = .ok (.putfield 19, 3) := by decide +kernel
theorem dX5_init_84 : decode cX5_init 84 = .ok (.aload_n 0, 1) := by decide +kernel
theorem dX5_init_85 : decode cX5_init 85 = .ok (.sipush 600, 3) := by decide +kernel
theorem dX5_init_88 : decode cX5_init 88 = .ok (.newarray .int, 2) := by decide +kernel
theorem dX5_init_90 : decode cX5_init 90 = .ok (.putfield 22, 3) := by decide +kernel
theorem dX5_init_93 : decode cX5_init 93 = .ok (.aload_n 0, 1) := by decide +kernel
theorem dX5_init_94 : decode cX5_init 94 = .ok (.sipush 600, 3) := by decide +kernel
theorem dX5_init_97 : decode cX5_init 97 = .ok (.newarray .double, 2) := by decide +kernel
theorem dX5_init_99 : decode cX5_init 99 = .ok (.putfield 25, 3) := by decide +kernel
theorem dX5_init_102 : decode cX5_init 102 = .ok (.aload_n 0, 1) := by decide +kernel
theorem dX5_init_103 : decode cX5_init 103 = .ok (.bipush 6, 2) := by decide +kernel
theorem dX5_init_105 : decode cX5_init 105 = .ok (.newarray .int, 2) := by decide +kernel
theorem dX5_init_107 : decode cX5_init 107 = .ok (.dup, 1) := by decide +kernel
theorem dX5_init_108 : decode cX5_init 108 = .ok (.iconst 0, 1) := by decide +kernel
theorem dX5_init_109 : decode cX5_init 109 = .ok (.iconst (-1), 1) := by decide +kernel
theorem dX5_init_110 : decode cX5_init 110 = .ok (.iastore, 1) := by decide +kernel
theorem dX5_init_111 : decode cX5_init 111 = .ok (.dup, 1) := by decide +kernel
theorem dX5_init_112 : decode cX5_init 112 = .ok (.iconst 1, 1) := by decide +kernel
theorem dX5_init_113 : decode cX5_init 113 = .ok (.iconst (-1), 1) := by decide +kernel
theorem dX5_init_114 : decode cX5_init 114 = .ok (.iastore, 1) := by decide +kernel
theorem dX5_init_115 : decode cX5_init 115 = .ok (.dup, 1) := by decide +kernel
theorem dX5_init_116 : decode cX5_init 116 = .ok (.iconst 2, 1) := by decide +kernel
theorem dX5_init_117 : decode cX5_init 117 = .ok (.iconst (-1), 1) := by decide +kernel
theorem dX5_init_118 : decode cX5_init 118 = .ok (.iastore, 1) := by decide +kernel
theorem dX5_init_119 : decode cX5_init 119 = .ok (.dup, 1) := by decide +kernel
theorem dX5_init_120 : decode cX5_init 120 = .ok (.iconst 3, 1) := by decide +kernel
theorem dX5_init_121 : decode cX5_init 121 = .ok (.iconst (-1), 1) := by decide +kernel
theorem dX5_init_122 : decode cX5_init 122 = .ok (.iastore, 1) := by decide +kernel
theorem dX5_init_123 : decode cX5_init 123 = .ok (.dup, 1) := by decide +kernel
theorem dX5_init_124 : decode cX5_init 124 = .ok (.iconst 4, 1) := by decide +kernel
theorem dX5_init_125 : decode cX5_init 125 = .ok (.iconst (-1), 1) := by decide +kernel
theorem dX5_init_126 : decode cX5_init 126 = .ok (.iastore, 1) := by decide +kernel
theorem dX5_init_127 : decode cX5_init 127 = .ok (.dup, 1) := by decide +kernel
theorem dX5_init_128 : decode cX5_init 128 = .ok (.iconst 5, 1) := by decide +kernel
theorem dX5_init_129 : decode cX5_init 129 = .ok (.iconst (-1), 1) := by decide +kernel
theorem dX5_init_130 : decode cX5_init 130 = .ok (.iastore, 1) := by decide +kernel
theorem dX5_init_131 : decode cX5_init 131 = .ok (.putfield 28, 3) := by decide +kernel
theorem dX5_init_134 : decode cX5_init 134 = .ok (.aload_n 0, 1) := by decide +kernel
theorem dX5_init_135 : decode cX5_init 135 = .ok (.iconst 3, 1) := by decide +kernel
theorem dX5_init_136 : decode cX5_init 136 = .ok (.newarray .int, 2) := by decide +kernel
theorem dX5_init_138 : decode cX5_init 138 = .ok (.dup, 1) := by decide +kernel
theorem dX5_init_139 : decode cX5_init 139 = .ok (.iconst 0, 1) := by decide +kernel
theorem dX5_init_140 : decode cX5_init 140 = .ok (.iconst (-1), 1) := by decide +kernel
theorem dX5_init_141 : decode cX5_init 141 = .ok (.iastore, 1) := by decide +kernel
theorem dX5_init_142 : decode cX5_init 142 = .ok (.dup, 1) := by decide +kernel
theorem dX5_init_143 : decode cX5_init 143 = .ok (.iconst 1, 1) := by decide +kernel
theorem dX5_init_144 : decode cX5_init 144 = .ok (.iconst (-1), 1) := by decide +kernel
theorem dX5_init_145 : decode cX5_init 145 = .ok (.iastore, 1) := by decide +kernel
theorem dX5_init_146 : decode cX5_init 146 = .ok (.dup, 1) := by decide +kernel
theorem dX5_init_147 : decode cX5_init 147 = .ok (.iconst 2, 1) := by decide +kernel
theorem dX5_init_148 : decode cX5_init 148 = .ok (.iconst (-1), 1) := by decide +kernel
theorem dX5_init_149 : decode cX5_init 149 = .ok (.iastore, 1) := by decide +kernel
theorem dX5_init_150 : decode cX5_init 150 = .ok (.putfield 31, 3) := by decide +kernel
theorem dX5_init_153 : decode cX5_init 153 = .ok (.aload_n 0, 1) := by decide +kernel
theorem dX5_init_154 : decode cX5_init 154 = .ok (.bipush 9, 2) := by decide +kernel
theorem dX5_init_156 : decode cX5_init 156 = .ok (.newarray .int, 2) := by decide +kernel
theorem dX5_init_158 : decode cX5_init 158 = .ok (.dup, 1) := by decide +kernel
theorem dX5_init_159 : decode cX5_init 159 = .ok (.iconst 0, 1) := by decide +kernel
theorem dX5_init_160 : decode cX5_init 160 = .ok (.iconst (-1), 1) := by decide +kernel
theorem dX5_init_161 : decode cX5_init 161 = .ok (.iastore, 1) := by decide +kernel
theorem dX5_init_162 : decode cX5_init 162 = .ok (.dup, 1) := by decide +kernel
theorem dX5_init_163 : decode cX5_init 163 = .ok (.iconst 1, 1) := by decide +kernel
theorem dX5_init_164 : decode cX5_init 164 = .ok (.iconst (-1), 1) := by decide +kernel
theorem dX5_init_165 : decode cX5_init 165 = .ok (.iastore, 1) := by decide +kernel
theorem dX5_init_166 : decode cX5_init 166 = .ok (.dup, 1) := by decide +kernel
theorem dX5_init_167 : decode cX5_init 167 = .ok (.iconst 2, 1) := by decide +kernel
theorem dX5_init_168 : decode cX5_init 168 = .ok (.iconst (-1), 1) := by decide +kernel
theorem dX5_init_169 : decode cX5_init 169 = .ok (.iastore, 1) := by decide +kernel
theorem dX5_init_170 : decode cX5_init 170 = .ok (.dup, 1) := by decide +kernel
theorem dX5_init_171 : decode cX5_init 171 = .ok (.iconst 3, 1) := by decide +kernel
theorem dX5_init_172 : decode cX5_init 172 = .ok (.iconst (-1), 1) := by decide +kernel
theorem dX5_init_173 : decode cX5_init 173 = .ok (.iastore, 1) := by decide +kernel
theorem dX5_init_174 : decode cX5_init 174 = .ok (.dup, 1) := by decide +kernel
theorem dX5_init_175 : decode cX5_init 175 = .ok (.iconst 4, 1) := by decide +kernel
theorem dX5_init_176 : decode cX5_init 176 = .ok (.iconst (-1), 1) := by decide +kernel
theorem dX5_init_177 : decode cX5_init 177 = .ok (.iastore, 1) := by decide +kernel
theorem dX5_init_178 : decode cX5_init 178 = .ok (.dup, 1) := by decide +kernel
theorem dX5_init_179 : decode cX5_init 179 = .ok (.iconst 5, 1) := by decide +kernel
theorem dX5_init_180 : decode cX5_init 180 = .ok (.iconst (-1), 1) := by decide +kernel
theorem dX5_init_181 : decode cX5_init 181 = .ok (.iastore, 1) := by decide +kernel
theorem dX5_init_182 : decode cX5_init 182 = .ok (.dup, 1) := by decide +kernel
theorem dX5_init_183 : decode cX5_init 183 = .ok (.bipush 6, 2) := by decide +kernel
theorem dX5_init_185 : decode cX5_init 185 = .ok (.iconst (-1), 1) := by decide +kernel
theorem dX5_init_186 : decode cX5_init 186 = .ok (.iastore, 1) := by decide +kernel
theorem dX5_init_187 : decode cX5_init 187 = .ok (.dup, 1) := by decide +kernel
theorem dX5_init_188 : decode cX5_init 188 = .ok (.bipush 7, 2) := by decide +kernel
theorem dX5_init_190 : decode cX5_init 190 = .ok (.iconst (-1), 1) := by decide +kernel
theorem dX5_init_191 : decode cX5_init 191 = .ok (.iastore, 1) := by decide +kernel
theorem dX5_init_192 : decode cX5_init 192 = .ok (.dup, 1) := by decide +kernel
theorem dX5_init_193 : decode cX5_init 193 = .ok (.bipush 8, 2) := by decide +kernel
theorem dX5_init_195 : decode cX5_init 195 = .ok (.iconst (-1), 1) := by decide +kernel
theorem dX5_init_196 : decode cX5_init 196 = .ok (.iastore, 1) := by decide +kernel
theorem dX5_init_197 : decode cX5_init 197 = .ok (.putfield 34, 3) := by decide +kernel
theorem dX5_init_200 : decode cX5_init 200 = .ok (.aload_n 0, 1) := by decide +kernel
theorem dX5_init_201 : decode cX5_init 201 = .ok (.iconst 4, 1) := by decide +kernel
theorem dX5_init_202 : decode cX5_init 202 = .ok (.newarray .boolean, 2) := by decide +kernel
theorem dX5_init_204 : decode cX5_init 204 = .ok (.putfield 37, 3) := by decide +kernel
theorem dX5_init_207 : decode cX5_init 207 = .ok (.aload_n 0, 1) := by decide +kernel
theorem dX5_init_208 : decode cX5_init 208 = .ok (.iconst 4, 1) := by decide +kernel
theorem dX5_init_209 : decode cX5_init 209 = .ok (.newarray .int, 2) := by decide +kernel
theorem dX5_init_211 : decode cX5_init 211 = .ok (.putfield 41, 3) := by decide +kernel
theorem dX5_init_214 : decode cX5_init 214 = .ok (.aload_n 0, 1) := by decide +kernel
theorem dX5_init_215 : decode cX5_init 215 = .ok (.iconst 4, 1) := by decide +kernel
theorem dX5_init_216 : decode cX5_init 216 = .ok (.newarray .int, 2) := by decide +kernel
theorem dX5_init_218 : decode cX5_init 218 = .ok (.putfield 44, 3) := by decide +kernel
theorem dX5_init_221 : decode cX5_init 221 = .ok (.aload_n 0, 1) := by decide +kernel
theorem dX5_init_222 : decode cX5_init 222 = .ok (.iconst 4, 1) := by decide +kernel
theorem dX5_init_223 : decode cX5_init 223 = .ok (.newarray .int, 2) := by decide +kernel
theorem dX5_init_225 : decode cX5_init 225 = .ok (.putfield 47, 3) := by decide +kernel
theorem dX5_init_228 : decode cX5_init 228 = .ok (.aload_n 0, 1) := by decide +kernel
theorem dX5_init_229 : decode cX5_init 229 = .ok (.iconst 4, 1) := by decide +kernel
theorem dX5_init_230 : decode cX5_init 230 = .ok (.newarray .double, 2) := by decide +kernel
theorem dX5_init_232 : decode cX5_init 232 = .ok (.putfield 50, 3) := by decide +kernel
theorem dX5_init_235 : decode cX5_init 235 = .ok (.aload_n 0, 1) := by decide +kernel
theorem dX5_init_236 : decode cX5_init 236 = .ok (.iconst 4, 1) := by decide +kernel
theorem dX5_init_237 : decode cX5_init 237 = .ok (.newarray .double, 2) := by decide +kernel
theorem dX5_init_239 : decode cX5_init 239 = .ok (.putfield 53, 3) := by decide +kernel
theorem dX5_init_242 : decode cX5_init 242 = .ok (.aload_n 0, 1) := by decide +kernel
theorem dX5_init_243 : decode cX5_init 243 = .ok (.iconst 4, 1) := by decide +kernel
theorem dX5_init_244 : decode cX5_init 244 = .ok (.newarray .long, 2) := by decide +kernel
theorem dX5_init_246 : decode cX5_init 246 = .ok (.putfield 56, 3) := by decide +kernel
theorem dX5_init_249 : decode cX5_init 249 = .ok (.aload_n 0, 1) := by decide +kernel
theorem dX5_init_250 : decode cX5_init 250 = .ok (.bipush 8, 2) := by decide +kernel
theorem dX5_init_252 : decode cX5_init 252 = .ok (.newarray .double, 2) := by decide +kernel
theorem dX5_init_254 : decode cX5_init 254 = .ok (.putfield 60, 3) := by decide +kernel
theorem dX5_init_257 : decode cX5_init 257 = .ok (.return_, 1) := by decide +kernel
theorem dX5_in_0 : decode cX5_in 0 = .ok (.iload_n 0, 1) := by decide +kernel
theorem dX5_in_1 : decode cX5_in 1 = .ok (.iload_n 1, 1) := by decide +kernel
theorem dX5_in_2 : decode cX5_in 2 = .ok (.if_icmp .lt 12, 3) := by decide +kernel
theorem dX5_in_5 : decode cX5_in 5 = .ok (.iload_n 0, 1) := by decide +kernel
theorem dX5_in_6 : decode cX5_in 6 = .ok (.iload_n 2, 1) := by decide +kernel
theorem dX5_in_7 : decode cX5_in 7 = .ok (.if_icmp .gt 7, 3) := by decide +kernel
theorem dX5_in_10 : decode cX5_in 10 = .ok (.iconst 1, 1) := by decide +kernel
theorem dX5_in_11 : decode cX5_in 11 = .ok (.goto 4, 3) := by decide +kernel
theorem dX5_in_14 : decode cX5_in 14 = .ok (.iconst 0, 1) := by decide +kernel
theorem dX5_in_15 : decode cX5_in 15 = .ok (.ireturn, 1) := by decide +kernel
theorem dX5_fails_0 : decode cX5_fails 0 = .ok (.bipush (-10), 2) := by decide +kernel
theorem dX5_fails_2 : decode cX5_fails 2 = .ok (.iload_n 0, 1) := by decide +kernel
theorem dX5_fails_3 : decode cX5_fails 3 = .ok (.isub, 1) := by decide +kernel
theorem dX5_fails_4 : decode cX5_fails 4 = .ok (.ireturn, 1) := by decide +kernel
