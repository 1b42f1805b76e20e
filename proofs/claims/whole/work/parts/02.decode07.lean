theorem dX5_wrap_73 : decode cX5_wrap 73 = .ok (.aload_n 0, 1) := by decide +kernel
theorem dX5_wrap_74 : decode cX5_wrap 74 = .ok (.getfield 15, 3) := by decide +kernel
theorem dX5_wrap_77 : decode cX5_wrap 77 = .ok (.bipush 16, 2) := by decide +kernel
theorem dX5_wrap_79 : decode cX5_wrap 79 = .ok (.aload_n 0, 1) := by decide +kernel
theorem dX5_wrap_80 : decode cX5_wrap 80 = .ok (.getfield 19, 3) := by decide +kernel
theorem dX5_wrap_83 : decode cX5_wrap 83 = .ok (.iload_n 1, 1) := by decide +kernel
theorem dX5_wrap_84 : decode cX5_wrap 84 = .ok (.iload_n 2, 1) := by decide +kernel
theorem dX5_wrap_85 : decode cX5_wrap 85 = .ok (.invokestatic 101, 3) := by decide +kernel
theorem dX5_wrap_88 : decode cX5_wrap 88 = .ok (.iaload, 1) := by decide +kernel
theorem dX5_wrap_89 : decode cX5_wrap 89 = .ok (.imul, 1) := by decide +kernel
theorem dX5_wrap_90 : decode cX5_wrap 90 = .ok (.iload_n 3, 1) := by decide +kernel
theorem dX5_wrap_91 : decode cX5_wrap 91 = .ok (.iadd, 1) := by decide +kernel
theorem dX5_wrap_92 : decode cX5_wrap 92 = .ok (.aload_n 0, 1) := by decide +kernel
theorem dX5_wrap_93 : decode cX5_wrap 93 = .ok (.iload_n 1, 1) := by decide +kernel
theorem dX5_wrap_94 : decode cX5_wrap 94 = .ok (.iload_n 2, 1) := by decide +kernel
theorem dX5_wrap_95 : decode cX5_wrap 95 = .ok (.iload_n 3, 1) := by decide +kernel
theorem dX5_wrap_96 : decode cX5_wrap 96 = .ok (.invokevirtual 121, 3) := by decide +kernel
theorem dX5_wrap_99 : decode cX5_wrap 99 = .ok (.dload 6, 2) := by decide +kernel
theorem dX5_wrap_101 : decode cX5_wrap 101 = .ok (.drem, 1) := by decide +kernel
theorem dX5_wrap_102 : decode cX5_wrap 102 = .ok (.dastore, 1) := by decide +kernel
theorem dX5_wrap_103 : decode cX5_wrap 103 = .ok (.iconst 1, 1) := by decide +kernel
theorem dX5_wrap_104 : decode cX5_wrap 104 = .ok (.ireturn, 1) := by decide +kernel
theorem dX5_effect_0 : decode cX5_effect 0 = .ok (.iload_n 1, 1) := by decide +kernel
theorem dX5_effect_1 : decode cX5_effect 1 = .ok (.iconst 0, 1) := by decide +kernel
theorem dX5_effect_2 : decode cX5_effect 2 = .ok (.iconst 5, 1) := by decide +kernel
theorem dX5_effect_3 : decode cX5_effect 3 = .ok (.invokestatic 93, 3) := by decide +kernel
theorem dX5_effect_6 : decode cX5_effect 6 = .ok (.ifCond .eq 20, 3) := by decide +kernel
theorem dX5_effect_9 : decode cX5_effect 9 = .ok (.iload_n 2, 1) := by decide +kernel
theorem dX5_effect_10 : decode cX5_effect 10 = .ok (.iconst 0, 1) := by decide +kernel
theorem dX5_effect_11 : decode cX5_effect 11 = .ok (.iconst 2, 1) := by decide +kernel
theorem dX5_effect_12 : decode cX5_effect 12 = .ok (.invokestatic 93, 3) := by decide +kernel
theorem dX5_effect_15 : decode cX5_effect 15 = .ok (.ifCond .eq 11, 3) := by decide +kernel
theorem dX5_effect_18 : decode cX5_effect 18 = .ok (.iconst 1, 1) := by decide +kernel
theorem dX5_effect_19 : decode cX5_effect 19 = .ok (.lload_n 3, 1) := by decide +kernel
theorem dX5_effect_20 : decode cX5_effect 20 = .ok (.invokestatic 105, 3) := by decide +kernel
theorem dX5_effect_23 : decode cX5_effect 23 = .ok (.ifCond .ne 5, 3) := by decide +kernel
theorem dX5_effect_26 : decode cX5_effect 26 = .ok (.iconst (-1), 1) := by decide +kernel
theorem dX5_effect_27 : decode cX5_effect 27 = .ok (.ireturn, 1) := by decide +kernel
theorem dX5_effect_28 : decode cX5_effect 28 = .ok (.lload_n 3, 1) := by decide +kernel
theorem dX5_effect_29 : decode cX5_effect 29 = .ok (.invokestatic 69, 3) := by decide +kernel
theorem dX5_effect_32 : decode cX5_effect 32 = .ok (.dstore 5, 2) := by decide +kernel
theorem dX5_effect_34 : decode cX5_effect 34 = .ok (.dload 5, 2) := by decide +kernel
theorem dX5_effect_36 : decode cX5_effect 36 = .ok (.ldc2_w 133, 3) := by decide +kernel
theorem dX5_effect_39 : decode cX5_effect 39 = .ok (.dcmp .g, 1) := by decide +kernel
theorem dX5_effect_40 : decode cX5_effect 40 = .ok (.ifCond .lt 12, 3) := by decide +kernel
theorem dX5_effect_43 : decode cX5_effect 43 = .ok (.dload 5, 2) := by decide +kernel
theorem dX5_effect_45 : decode cX5_effect 45 = .ok (.ldc2_w 135, 3) := by decide +kernel
theorem dX5_effect_48 : decode cX5_effect 48 = .ok (.dcmp .l, 1) := by decide +kernel
theorem dX5_effect_49 : decode cX5_effect 49 = .ok (.ifCond .le 5, 3) := by decide +kernel
theorem dX5_effect_52 : decode cX5_effect 52 = .ok (.iconst (-1), 1) := by decide +kernel
theorem dX5_effect_53 : decode cX5_effect 53 = .ok (.ireturn, 1) := by decide +kernel
theorem dX5_effect_54 : decode cX5_effect 54 = .ok (.aload_n 0, 1) := by decide +kernel
theorem dX5_effect_55 : decode cX5_effect 55 = .ok (.getfield 22, 3) := by decide +kernel
theorem dX5_effect_58 : decode cX5_effect 58 = .ok (.aload_n 0, 1) := by decide +kernel
theorem dX5_effect_59 : decode cX5_effect 59 = .ok (.getfield 137, 3) := by decide +kernel
theorem dX5_effect_62 : decode cX5_effect 62 = .ok (.iload_n 2, 1) := by decide +kernel
theorem dX5_effect_63 : decode cX5_effect 63 = .ok (.iastore, 1) := by decide +kernel
theorem dX5_effect_64 : decode cX5_effect 64 = .ok (.aload_n 0, 1) := by decide +kernel
theorem dX5_effect_65 : decode cX5_effect 65 = .ok (.getfield 25, 3) := by decide +kernel
theorem dX5_effect_68 : decode cX5_effect 68 = .ok (.aload_n 0, 1) := by decide +kernel
theorem dX5_effect_69 : decode cX5_effect 69 = .ok (.getfield 137, 3) := by decide +kernel
theorem dX5_effect_72 : decode cX5_effect 72 = .ok (.dload 5, 2) := by decide +kernel
theorem dX5_effect_74 : decode cX5_effect 74 = .ok (.dastore, 1) := by decide +kernel
theorem dX5_effect_75 : decode cX5_effect 75 = .ok (.aload_n 0, 1) := by decide +kernel
theorem dX5_effect_76 : decode cX5_effect 76 = .ok (.getfield 28, 3) := by decide +kernel
theorem dX5_effect_79 : decode cX5_effect 79 = .ok (.iload_n 1, 1) := by decide +kernel
theorem dX5_effect_80 : decode cX5_effect 80 = .ok (.aload_n 0, 1) := by decide +kernel
theorem dX5_effect_81 : decode cX5_effect 81 = .ok (.getfield 137, 3) := by decide +kernel
theorem dX5_effect_84 : decode cX5_effect 84 = .ok (.iastore, 1) := by decide +kernel
theorem dX5_effect_85 : decode cX5_effect 85 = .ok (.aload_n 0, 1) := by decide +kernel
theorem dX5_effect_86 : decode cX5_effect 86 = .ok (.dup, 1) := by decide +kernel
theorem dX5_effect_87 : decode cX5_effect 87 = .ok (.getfield 137, 3) := by decide +kernel
theorem dX5_effect_90 : decode cX5_effect 90 = .ok (.iconst 1, 1) := by decide +kernel
theorem dX5_effect_91 : decode cX5_effect 91 = .ok (.iadd, 1) := by decide +kernel
theorem dX5_effect_92 : decode cX5_effect 92 = .ok (.putfield 137, 3) := by decide +kernel
theorem dX5_effect_95 : decode cX5_effect 95 = .ok (.iconst 1, 1) := by decide +kernel
theorem dX5_effect_96 : decode cX5_effect 96 = .ok (.ireturn, 1) := by decide +kernel
theorem dX5_made_0 : decode cX5_made 0 = .ok (.aload_n 0, 1) := by decide +kernel
theorem dX5_made_1 : decode cX5_made 1 = .ok (.getfield 25, 3) := by decide +kernel
theorem dX5_made_4 : decode cX5_made 4 = .ok (.iload_n 1, 1) := by decide +kernel
theorem dX5_made_5 : decode cX5_made 5 = .ok (.daload, 1) := by decide +kernel
theorem dX5_made_6 : decode cX5_made 6 = .ok (.dstore 4, 2) := by decide +kernel
theorem dX5_made_8 : decode cX5_made 8 = .ok (.aload_n 0, 1) := by decide +kernel
theorem dX5_made_9 : decode cX5_made 9 = .ok (.getfield 22, 3) := by decide +kernel
theorem dX5_made_12 : decode cX5_made 12 = .ok (.iload_n 1, 1) := by decide +kernel
theorem dX5_made_13 : decode cX5_made 13 = .ok (.iaload, 1) := by decide +kernel
theorem dX5_made_14 : decode cX5_made 14 = .ok (.ifCond .ne 11, 3) := by decide +kernel
theorem dX5_made_17 : decode cX5_made 17 = .ok (.dload_n 2, 1) := by decide +kernel
theorem dX5_made_18 : decode cX5_made 18 = .ok (.dload 4, 2) := by decide +kernel
theorem dX5_made_20 : decode cX5_made 20 = .ok (.dmul, 1) := by decide +kernel
theorem dX5_made_21 : decode cX5_made 21 = .ok (.invokestatic 140, 3) := by decide +kernel
theorem dX5_made_24 : decode cX5_made 24 = .ok (.dreturn, 1) := by decide +kernel
theorem dX5_made_25 : decode cX5_made 25 = .ok (.aload_n 0, 1) := by decide +kernel
theorem dX5_made_26 : decode cX5_made 26 = .ok (.getfield 22, 3) := by decide +kernel
theorem dX5_made_29 : decode cX5_made 29 = .ok (.iload_n 1, 1) := by decide +kernel
theorem dX5_made_30 : decode cX5_made 30 = .ok (.iaload, 1) := by decide +kernel
theorem dX5_made_31 : decode cX5_made 31 = .ok (.iconst 1, 1) := by decide +kernel
theorem dX5_made_32 : decode cX5_made 32 = .ok (.if_icmp .ne 53, 3) := by decide +kernel
theorem dX5_made_35 : decode cX5_made 35 = .ok (.dload_n 2, 1) := by decide +kernel
theorem dX5_made_36 : decode cX5_made 36 = .ok (.dload 4, 2) := by decide +kernel
theorem dX5_made_38 : decode cX5_made 38 = .ok (.dmul, 1) := by decide +kernel
theorem dX5_made_39 : decode cX5_made 39 = .ok (.ldc2_w 144, 3) := by decide +kernel
theorem dX5_made_42 : decode cX5_made 42 = .ok (.drem, 1) := by decide +kernel
theorem dX5_made_43 : decode cX5_made 43 = .ok (.dstore 6, 2) := by decide +kernel
theorem dX5_made_45 : decode cX5_made 45 = .ok (.dload 6, 2) := by decide +kernel
theorem dX5_made_47 : decode cX5_made 47 = .ok (.dconst 1, 1) := by decide +kernel
theorem dX5_made_48 : decode cX5_made 48 = .ok (.dcmp .l, 1) := by decide +kernel
theorem dX5_made_49 : decode cX5_made 49 = .ok (.ifCond .le 12, 3) := by decide +kernel
theorem dX5_made_52 : decode cX5_made 52 = .ok (.ldc2_w 144, 3) := by decide +kernel
theorem dX5_made_55 : decode cX5_made 55 = .ok (.dload 6, 2) := by decide +kernel
theorem dX5_made_57 : decode cX5_made 57 = .ok (.dsub, 1) := by decide +kernel
theorem dX5_made_58 : decode cX5_made 58 = .ok (.goto 23, 3) := by decide +kernel
theorem dX5_made_61 : decode cX5_made 61 = .ok (.dload 6, 2) := by decide +kernel
theorem dX5_made_63 : decode cX5_made 63 = .ok (.ldc2_w 146, 3) := by decide +kernel
theorem dX5_made_66 : decode cX5_made 66 = .ok (.dcmp .g, 1) := by decide +kernel
theorem dX5_made_67 : decode cX5_made 67 = .ok (.ifCond .ge 12, 3) := by decide +kernel
theorem dX5_made_70 : decode cX5_made 70 = .ok (.ldc2_w 148, 3) := by decide +kernel
theorem dX5_made_73 : decode cX5_made 73 = .ok (.dload 6, 2) := by decide +kernel
theorem dX5_made_75 : decode cX5_made 75 = .ok (.dsub, 1) := by decide +kernel
theorem dX5_made_76 : decode cX5_made 76 = .ok (.goto 5, 3) := by decide +kernel
theorem dX5_made_79 : decode cX5_made 79 = .ok (.dload 6, 2) := by decide +kernel
theorem dX5_made_81 : decode cX5_made 81 = .ok (.invokestatic 140, 3) := by decide +kernel
theorem dX5_made_84 : decode cX5_made 84 = .ok (.dreturn, 1) := by decide +kernel
theorem dX5_made_85 : decode cX5_made 85 = .ok (.dload 4, 2) := by decide +kernel
theorem dX5_made_87 : decode cX5_made 87 = .ok (.d2i, 1) := by decide +kernel
theorem dX5_made_88 : decode cX5_made 88 = .ok (.iconst 1, 1) := by decide +kernel
theorem dX5_made_89 : decode cX5_made 89 = .ok (.if_icmp .ge 7, 3) := by decide +kernel
theorem dX5_made_92 : decode cX5_made 92 = .ok (.iconst 1, 1) := by decide +kernel
theorem dX5_made_93 : decode cX5_made 93 = .ok (.goto 6, 3) := by decide +kernel
theorem dX5_made_96 : decode cX5_made 96 = .ok (.dload 4, 2) := by decide +kernel
theorem dX5_made_98 : decode cX5_made 98 = .ok (.d2i, 1) := by decide +kernel
theorem dX5_made_99 : decode cX5_made 99 = .ok (.istore 6, 2) := by decide +kernel
theorem dX5_made_101 : decode cX5_made 101 = .ok (.dload_n 2, 1) := by decide +kernel
theorem dX5_made_102 : decode cX5_made 102 = .ok (.iload 6, 2) := by decide +kernel
theorem dX5_made_104 : decode cX5_made 104 = .ok (.i2d, 1) := by decide +kernel
theorem dX5_made_105 : decode cX5_made 105 = .ok (.dmul, 1) := by decide +kernel
theorem dX5_made_106 : decode cX5_made 106 = .ok (.d2l, 1) := by decide +kernel
theorem dX5_made_107 : decode cX5_made 107 = .ok (.l2d, 1) := by decide +kernel
theorem dX5_made_108 : decode cX5_made 108 = .ok (.iload 6, 2) := by decide +kernel
theorem dX5_made_110 : decode cX5_made 110 = .ok (.i2d, 1) := by decide +kernel
theorem dX5_made_111 : decode cX5_made 111 = .ok (.ddiv, 1) := by decide +kernel
theorem dX5_made_112 : decode cX5_made 112 = .ok (.invokestatic 140, 3) := by decide +kernel
theorem dX5_made_115 : decode cX5_made 115 = .ok (.dreturn, 1) := by decide +kernel
theorem dX5_make_0 : decode cX5_make 0 = .ok (.iload_n 1, 1) := by decide +kernel
theorem dX5_make_1 : decode cX5_make 1 = .ok (.iconst 0, 1) := by decide +kernel
theorem dX5_make_2 : decode cX5_make 2 = .ok (.iconst 5, 1) := by decide +kernel
theorem dX5_make_3 : decode cX5_make 3 = .ok (.invokestatic 93, 3) := by decide +kernel
theorem dX5_make_6 : decode cX5_make 6 = .ok (.ifCond .eq 11, 3) := by decide +kernel
theorem dX5_make_9 : decode cX5_make 9 = .ok (.iconst 0, 1) := by decide +kernel
theorem dX5_make_10 : decode cX5_make 10 = .ok (.lload_n 2, 1) := by decide +kernel
theorem dX5_make_11 : decode cX5_make 11 = .ok (.invokestatic 105, 3) := by decide +kernel
theorem dX5_make_14 : decode cX5_make 14 = .ok (.ifCond .ne 5, 3) := by decide +kernel
theorem dX5_make_17 : decode cX5_make 17 = .ok (.iconst (-1), 1) := by decide +kernel
theorem dX5_make_18 : decode cX5_make 18 = .ok (.ireturn, 1) := by decide +kernel
theorem dX5_make_19 : decode cX5_make 19 = .ok (.aload_n 0, 1) := by decide +kernel
theorem dX5_make_20 : decode cX5_make 20 = .ok (.getfield 28, 3) := by decide +kernel
theorem dX5_make_23 : decode cX5_make 23 = .ok (.iload_n 1, 1) := by decide +kernel
theorem dX5_make_24 : decode cX5_make 24 = .ok (.iaload, 1) := by decide +kernel
theorem dX5_make_25 : decode cX5_make 25 = .ok (.ifCond .ge 8, 3) := by decide +kernel
theorem dX5_make_28 : decode cX5_make 28 = .ok (.iconst 1, 1) := by decide +kernel
theorem dX5_make_29 : decode cX5_make 29 = .ok (.invokestatic 113, 3) := by decide +kernel
theorem dX5_make_32 : decode cX5_make 32 = .ok (.ireturn, 1) := by decide +kernel
theorem dX5_make_33 : decode cX5_make 33 = .ok (.aload_n 0, 1) := by decide +kernel
theorem dX5_make_34 : decode cX5_make 34 = .ok (.iconst 0, 1) := by decide +kernel
theorem dX5_make_35 : decode cX5_make 35 = .ok (.aload_n 0, 1) := by decide +kernel
theorem dX5_make_36 : decode cX5_make 36 = .ok (.aload_n 0, 1) := by decide +kernel
theorem dX5_make_37 : decode cX5_make 37 = .ok (.getfield 28, 3) := by decide +kernel
theorem dX5_make_40 : decode cX5_make 40 = .ok (.iload_n 1, 1) := by decide +kernel
theorem dX5_make_41 : decode cX5_make 41 = .ok (.iaload, 1) := by decide +kernel
theorem dX5_make_42 : decode cX5_make 42 = .ok (.iconst 0, 1) := by decide +kernel
theorem dX5_make_43 : decode cX5_make 43 = .ok (.lload_n 2, 1) := by decide +kernel
theorem dX5_make_44 : decode cX5_make 44 = .ok (.invokestatic 117, 3) := by decide +kernel
theorem dX5_make_47 : decode cX5_make 47 = .ok (.invokevirtual 150, 3) := by decide +kernel
theorem dX5_make_50 : decode cX5_make 50 = .ok (.invokestatic 125, 3) := by decide +kernel
theorem dX5_make_53 : decode cX5_make 53 = .ok (.putfield 129, 3) := by decide +kernel
theorem dX5_make_56 : decode cX5_make 56 = .ok (.iconst 1, 1) := by decide +kernel
theorem dX5_make_57 : decode cX5_make 57 = .ok (.ireturn, 1) := by decide +kernel
theorem dX5_fits_0 : decode cX5_fits 0 = .ok (.iload_n 0, 1) := by decide +kernel
theorem dX5_fits_1 : decode cX5_fits 1 = .ok (.iload_n 1, 1) := by decide +kernel
theorem dX5_fits_2 : decode cX5_fits 2 = .ok (.if_icmp .eq 12, 3) := by decide +kernel
theorem dX5_fits_5 : decode cX5_fits 5 = .ok (.iload_n 0, 1) := by decide +kernel
theorem dX5_fits_6 : decode cX5_fits 6 = .ok (.iconst 1, 1) := by decide +kernel
theorem dX5_fits_7 : decode cX5_fits 7 = .ok (.if_icmp .ne 11, 3) := by decide +kernel
theorem dX5_fits_10 : decode cX5_fits 10 = .ok (.iload_n 1, 1) := by decide +kernel
theorem dX5_fits_11 : decode cX5_fits 11 = .ok (.ifCond .ne 7, 3) := by decide +kernel
theorem dX5_fits_14 : decode cX5_fits 14 = .ok (.iconst 1, 1) := by decide +kernel
theorem dX5_fits_15 : decode cX5_fits 15 = .ok (.goto 4, 3) := by decide +kernel
theorem dX5_fits_18 : decode cX5_fits 18 = .ok (.iconst 0, 1) := by decide +kernel
theorem dX5_fits_19 : decode cX5_fits 19 = .ok (.ireturn, 1) := by decide +kernel
theorem dX5_rack_0 : decode cX5_rack 0 = .ok (.iload_n 1, 1) := by decide +kernel
theorem dX5_rack_1 : decode cX5_rack 1 = .ok (.iconst 0, 1) := by decide +kernel
theorem dX5_rack_2 : decode cX5_rack 2 = .ok (.iconst 2, 1) := by decide +kernel
theorem dX5_rack_3 : decode cX5_rack 3 = .ok (.invokestatic 93, 3) := by decide +kernel
theorem dX5_rack_6 : decode cX5_rack 6 = .ok (.ifCond .eq 12, 3) := by decide +kernel
theorem dX5_rack_9 : decode cX5_rack 9 = .ok (.iload_n 2, 1) := by decide +kernel
theorem dX5_rack_10 : decode cX5_rack 10 = .ok (.iconst 0, 1) := by decide +kernel
theorem dX5_rack_11 : decode cX5_rack 11 = .ok (.iconst 2, 1) := by decide +kernel
theorem dX5_rack_12 : decode cX5_rack 12 = .ok (.invokestatic 93, 3) := by decide +kernel
theorem dX5_rack_15 : decode cX5_rack 15 = .ok (.ifCond .ne 5, 3) := by decide +kernel
theorem dX5_rack_18 : decode cX5_rack 18 = .ok (.iconst (-1), 1) := by decide +kernel
theorem dX5_rack_19 : decode cX5_rack 19 = .ok (.ireturn, 1) := by decide +kernel
theorem dX5_rack_20 : decode cX5_rack 20 = .ok (.aload_n 0, 1) := by decide +kernel
theorem dX5_rack_21 : decode cX5_rack 21 = .ok (.getfield 31, 3) := by decide +kernel
theorem dX5_rack_24 : decode cX5_rack 24 = .ok (.iload_n 1, 1) := by decide +kernel
theorem dX5_rack_25 : decode cX5_rack 25 = .ok (.iload_n 2, 1) := by decide +kernel
theorem dX5_rack_26 : decode cX5_rack 26 = .ok (.iastore, 1) := by decide +kernel
theorem dX5_rack_27 : decode cX5_rack 27 = .ok (.iconst 0, 1) := by decide +kernel
theorem dX5_rack_28 : decode cX5_rack 28 = .ok (.istore_n 3, 1) := by decide +kernel
theorem dX5_rack_29 : decode cX5_rack 29 = .ok (.iload_n 3, 1) := by decide +kernel
theorem dX5_rack_30 : decode cX5_rack 30 = .ok (.iconst 3, 1) := by decide +kernel
theorem dX5_rack_31 : decode cX5_rack 31 = .ok (.if_icmp .ge 20, 3) := by decide +kernel
theorem dX5_rack_34 : decode cX5_rack 34 = .ok (.aload_n 0, 1) := by decide +kernel
theorem dX5_rack_35 : decode cX5_rack 35 = .ok (.getfield 34, 3) := by decide +kernel
theorem dX5_rack_38 : decode cX5_rack 38 = .ok (.iconst 3, 1) := by decide +kernel
theorem dX5_rack_39 : decode cX5_rack 39 = .ok (.iload_n 1, 1) := by decide +kernel
theorem dX5_rack_40 : decode cX5_rack 40 = .ok (.imul, 1) := by decide +kernel
theorem dX5_rack_41 : decode cX5_rack 41 = .ok (.iload_n 3, 1) := by decide +kernel
theorem dX5_rack_42 : decode cX5_rack 42 = .ok (.iadd, 1) := by decide +kernel
theorem dX5_rack_43 : decode cX5_rack 43 = .ok (.iconst (-1), 1) := by decide +kernel
theorem dX5_rack_44 : decode cX5_rack 44 = .ok (.iastore, 1) := by decide +kernel
theorem dX5_rack_45 : decode cX5_rack 45 = .ok (.iinc 3 1, 3) := by decide +kernel
theorem dX5_rack_48 : decode cX5_rack 48 = .ok (.goto (-19), 3) := by decide +kernel
theorem dX5_rack_51 : decode cX5_rack 51 = .ok (.iconst 1, 1) := by decide +kernel
theorem dX5_rack_52 : decode cX5_rack 52 = .ok (.ireturn, 1) := by decide +kernel
theorem dX5_hang_0 : decode cX5_hang 0 = .ok (.iload_n 1, 1) := by decide +kernel
theorem dX5_hang_1 : decode cX5_hang 1 = .ok (.iconst 0, 1) := by decide +kernel
theorem dX5_hang_2 : decode cX5_hang 2 = .ok (.iconst 2, 1) := by decide +kernel
theorem dX5_hang_3 : decode cX5_hang 3 = .ok (.invokestatic 93, 3) := by decide +kernel
theorem dX5_hang_6 : decode cX5_hang 6 = .ok (.ifCond .eq 12, 3) := by decide +kernel
theorem dX5_hang_9 : decode cX5_hang 9 = .ok (.iload_n 3, 1) := by decide +kernel
theorem dX5_hang_10 : decode cX5_hang 10 = .ok (.iconst 0, 1) := by decide +kernel
theorem dX5_hang_11 : decode cX5_hang 11 = .ok (.iconst 5, 1) := by decide +kernel
theorem dX5_hang_12 : decode cX5_hang 12 = .ok (.invokestatic 93, 3) := by decide +kernel
theorem dX5_hang_15 : decode cX5_hang 15 = .ok (.ifCond .ne 5, 3) := by decide +kernel
theorem dX5_hang_18 : decode cX5_hang 18 = .ok (.iconst (-1), 1) := by decide +kernel
theorem dX5_hang_19 : decode cX5_hang 19 = .ok (.ireturn, 1) := by decide +kernel
theorem dX5_hang_20 : decode cX5_hang 20 = .ok (.aload_n 0, 1) := by decide +kernel
theorem dX5_hang_21 : decode cX5_hang 21 = .ok (.getfield 31, 3) := by decide +kernel
theorem dX5_hang_24 : decode cX5_hang 24 = .ok (.iload_n 1, 1) := by decide +kernel
theorem dX5_hang_25 : decode cX5_hang 25 = .ok (.iaload, 1) := by decide +kernel
theorem dX5_hang_26 : decode cX5_hang 26 = .ok (.ifCond .ge 8, 3) := by decide +kernel
theorem dX5_hang_29 : decode cX5_hang 29 = .ok (.iconst 1, 1) := by decide +kernel
theorem dX5_hang_30 : decode cX5_hang 30 = .ok (.invokestatic 113, 3) := by decide +kernel
theorem dX5_hang_33 : decode cX5_hang 33 = .ok (.ireturn, 1) := by decide +kernel
theorem dX5_hang_34 : decode cX5_hang 34 = .ok (.iload_n 2, 1) := by decide +kernel
theorem dX5_hang_35 : decode cX5_hang 35 = .ok (.iconst 0, 1) := by decide +kernel
theorem dX5_hang_36 : decode cX5_hang 36 = .ok (.iconst 2, 1) := by decide +kernel
theorem dX5_hang_37 : decode cX5_hang 37 = .ok (.invokestatic 93, 3) := by decide +kernel
theorem dX5_hang_40 : decode cX5_hang 40 = .ok (.ifCond .ne 8, 3) := by decide +kernel
theorem dX5_hang_43 : decode cX5_hang 43 = .ok (.iconst 2, 1) := by decide +kernel
theorem dX5_hang_44 : decode cX5_hang 44 = .ok (.invokestatic 113, 3) := by decide +kernel
theorem dX5_hang_47 : decode cX5_hang 47 = .ok (.ireturn, 1) := by decide +kernel
theorem dX5_hang_48 : decode cX5_hang 48 = .ok (.aload_n 0, 1) := by decide +kernel
theorem dX5_hang_49 : decode cX5_hang 49 = .ok (.getfield 28, 3) := by decide +kernel
theorem dX5_hang_52 : decode cX5_hang 52 = .ok (.iload_n 3, 1) := by decide +kernel
theorem dX5_hang_53 : decode cX5_hang 53 = .ok (.iaload, 1) := by decide +kernel
theorem dX5_hang_54 : decode cX5_hang 54 = .ok (.istore 4, 2) := by decide +kernel
theorem dX5_hang_56 : decode cX5_hang 56 = .ok (.iload 4, 2) := by decide +kernel
theorem dX5_hang_58 : decode cX5_hang 58 = .ok (.ifCond .lt 27, 3) := by decide +kernel
theorem dX5_hang_61 : decode cX5_hang 61 = .ok (.aload_n 0, 1) := by decide +kernel
theorem dX5_hang_62 : decode cX5_hang 62 = .ok (.getfield 22, 3) := by decide +kernel
theorem dX5_hang_65 : decode cX5_hang 65 = .ok (.iload 4, 2) := by decide +kernel
theorem dX5_hang_67 : decode cX5_hang 67 = .ok (.iaload, 1) := by decide +kernel
theorem dX5_hang_68 : decode cX5_hang 68 = .ok (.aload_n 0, 1) := by decide +kernel
theorem dX5_hang_69 : decode cX5_hang 69 = .ok (.getfield 31, 3) := by decide +kernel
theorem dX5_hang_72 : decode cX5_hang 72 = .ok (.iload_n 1, 1) := by decide +kernel
theorem dX5_hang_73 : decode cX5_hang 73 = .ok (.iaload, 1) := by decide +kernel
theorem dX5_hang_74 : decode cX5_hang 74 = .ok (.invokestatic 154, 3) := by decide +kernel
theorem dX5_hang_77 : decode cX5_hang 77 = .ok (.ifCond .ne 8, 3) := by decide +kernel
theorem dX5_hang_80 : decode cX5_hang 80 = .ok (.iconst 4, 1) := by decide +kernel
theorem dX5_hang_81 : decode cX5_hang 81 = .ok (.invokestatic 113, 3) := by decide +kernel
theorem dX5_hang_84 : decode cX5_hang 84 = .ok (.ireturn, 1) := by decide +kernel
theorem dX5_hang_85 : decode cX5_hang 85 = .ok (.aload_n 0, 1) := by decide +kernel
theorem dX5_hang_86 : decode cX5_hang 86 = .ok (.getfield 34, 3) := by decide +kernel
theorem dX5_hang_89 : decode cX5_hang 89 = .ok (.iconst 3, 1) := by decide +kernel
theorem dX5_hang_90 : decode cX5_hang 90 = .ok (.iload_n 1, 1) := by decide +kernel
theorem dX5_hang_91 : decode cX5_hang 91 = .ok (.imul, 1) := by decide +kernel
theorem dX5_hang_92 : decode cX5_hang 92 = .ok (.iload_n 2, 1) := by decide +kernel
theorem dX5_hang_93 : decode cX5_hang 93 = .ok (.iadd, 1) := by decide +kernel
theorem dX5_hang_94 : decode cX5_hang 94 = .ok (.iload 4, 2) := by decide +kernel
theorem dX5_hang_96 : decode cX5_hang 96 = .ok (.iastore, 1) := by decide +kernel
theorem dX5_hang_97 : decode cX5_hang 97 = .ok (.iconst 1, 1) := by decide +kernel
theorem dX5_hang_98 : decode cX5_hang 98 = .ok (.ireturn, 1) := by decide +kernel
theorem dX5_take_0 : decode cX5_take 0 = .ok (.iload_n 1, 1) := by decide +kernel
theorem dX5_take_1 : decode cX5_take 1 = .ok (.iconst 0, 1) := by decide +kernel
theorem dX5_take_2 : decode cX5_take 2 = .ok (.iconst 2, 1) := by decide +kernel
theorem dX5_take_3 : decode cX5_take 3 = .ok (.invokestatic 93, 3) := by decide +kernel
theorem dX5_take_6 : decode cX5_take 6 = .ok (.ifCond .eq 22, 3) := by decide +kernel
theorem dX5_take_9 : decode cX5_take 9 = .ok (.iload_n 3, 1) := by decide +kernel
theorem dX5_take_10 : decode cX5_take 10 = .ok (.iconst 0, 1) := by decide +kernel
theorem dX5_take_11 : decode cX5_take 11 = .ok (.iconst 2, 1) := by decide +kernel
theorem dX5_take_12 : decode cX5_take 12 = .ok (.invokestatic 93, 3) := by decide +kernel
theorem dX5_take_15 : decode cX5_take 15 = .ok (.ifCond .eq 13, 3) := by decide +kernel
theorem dX5_take_18 : decode cX5_take 18 = .ok (.iload 4, 2) := by decide +kernel
theorem dX5_take_20 : decode cX5_take 20 = .ok (.iconst 0, 1) := by decide +kernel
theorem dX5_take_21 : decode cX5_take 21 = .ok (.iconst 5, 1) := by decide +kernel
theorem dX5_take_22 : decode cX5_take 22 = .ok (.invokestatic 93, 3) := by decide +kernel
theorem dX5_take_25 : decode cX5_take 25 = .ok (.ifCond .ne 5, 3) := by decide +kernel
theorem dX5_take_28 : decode cX5_take 28 = .ok (.iconst (-1), 1) := by decide +kernel
theorem dX5_take_29 : decode cX5_take 29 = .ok (.ireturn, 1) := by decide +kernel
theorem dX5_take_30 : decode cX5_take 30 = .ok (.aload_n 0, 1) := by decide +kernel
theorem dX5_take_31 : decode cX5_take 31 = .ok (.getfield 31, 3) := by decide +kernel
theorem dX5_take_34 : decode cX5_take 34 = .ok (.iload_n 1, 1) := by decide +kernel
theorem dX5_take_35 : decode cX5_take 35 = .ok (.iaload, 1) := by decide +kernel
theorem dX5_take_36 : decode cX5_take 36 = .ok (.ifCond .ge 8, 3) := by decide +kernel
theorem dX5_take_39 : decode cX5_take 39 = .ok (.iconst 1, 1) := by decide +kernel
theorem dX5_take_40 : decode cX5_take 40 = .ok (.invokestatic 113, 3) := by decide +kernel
theorem dX5_take_43 : decode cX5_take 43 = .ok (.ireturn, 1) := by decide +kernel
theorem dX5_take_44 : decode cX5_take 44 = .ok (.iload_n 2, 1) := by decide +kernel
theorem dX5_take_45 : decode cX5_take 45 = .ok (.iconst 0, 1) := by decide +kernel
theorem dX5_take_46 : decode cX5_take 46 = .ok (.iconst 2, 1) := by decide +kernel
theorem dX5_take_47 : decode cX5_take 47 = .ok (.invokestatic 93, 3) := by decide +kernel
theorem dX5_take_50 : decode cX5_take 50 = .ok (.ifCond .ne 8, 3) := by decide +kernel
theorem dX5_take_53 : decode cX5_take 53 = .ok (.iconst 2, 1) := by decide +kernel
theorem dX5_take_54 : decode cX5_take 54 = .ok (.invokestatic 113, 3) := by decide +kernel
theorem dX5_take_57 : decode cX5_take 57 = .ok (.ireturn, 1) := by decide +kernel
theorem dX5_take_58 : decode cX5_take 58 = .ok (.aload_n 0, 1) := by decide +kernel
theorem dX5_take_59 : decode cX5_take 59 = .ok (.getfield 34, 3) := by decide +kernel
theorem dX5_take_62 : decode cX5_take 62 = .ok (.iconst 3, 1) := by decide +kernel
theorem dX5_take_63 : decode cX5_take 63 = .ok (.iload_n 1, 1) := by decide +kernel
theorem dX5_take_64 : decode cX5_take 64 = .ok (.imul, 1) := by decide +kernel
theorem dX5_take_65 : decode cX5_take 65 = .ok (.iload_n 2, 1) := by decide +kernel
theorem dX5_take_66 : decode cX5_take 66 = .ok (.iadd, 1) := by decide +kernel
theorem dX5_take_67 : decode cX5_take 67 = .ok (.iaload, 1) := by decide +kernel
theorem dX5_take_68 : decode cX5_take 68 = .ok (.istore 5, 2) := by decide +kernel
theorem dX5_take_70 : decode cX5_take 70 = .ok (.iload 5, 2) := by decide +kernel
theorem dX5_take_72 : decode cX5_take 72 = .ok (.ifCond .lt 22, 3) := by decide +kernel
theorem dX5_take_75 : decode cX5_take 75 = .ok (.aload_n 0, 1) := by decide +kernel
theorem dX5_take_76 : decode cX5_take 76 = .ok (.getfield 22, 3) := by decide +kernel
theorem dX5_take_79 : decode cX5_take 79 = .ok (.iload 5, 2) := by decide +kernel
