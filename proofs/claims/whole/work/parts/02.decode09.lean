theorem dX5_play_72 : decode cX5_play 72 = .ok (.istore_n 3, 1) := by decide +kernel
theorem dX5_play_73 : decode cX5_play 73 = .ok (.goto (-36), 3) := by decide +kernel
theorem dX5_play_76 : decode cX5_play 76 = .ok (.iload_n 3, 1) := by decide +kernel
theorem dX5_play_77 : decode cX5_play 77 = .ok (.ireturn, 1) := by decide +kernel
theorem dX5_failed_0 : decode cX5_failed 0 = .ok (.aload_n 0, 1) := by decide +kernel
theorem dX5_failed_1 : decode cX5_failed 1 = .ok (.getfield 164, 3) := by decide +kernel
theorem dX5_failed_4 : decode cX5_failed 4 = .ok (.ifCond .ne 7, 3) := by decide +kernel
theorem dX5_failed_7 : decode cX5_failed 7 = .ok (.iconst 0, 1) := by decide +kernel
theorem dX5_failed_8 : decode cX5_failed 8 = .ok (.goto 10, 3) := by decide +kernel
theorem dX5_failed_11 : decode cX5_failed 11 = .ok (.aload_n 0, 1) := by decide +kernel
theorem dX5_failed_12 : decode cX5_failed 12 = .ok (.getfield 164, 3) := by decide +kernel
theorem dX5_failed_15 : decode cX5_failed 15 = .ok (.invokestatic 113, 3) := by decide +kernel
theorem dX5_failed_18 : decode cX5_failed 18 = .ok (.ireturn, 1) := by decide +kernel
theorem dX5_mix_0 : decode cX5_mix 0 = .ok (.iload_n 1, 1) := by decide +kernel
theorem dX5_mix_1 : decode cX5_mix 1 = .ok (.iconst 0, 1) := by decide +kernel
theorem dX5_mix_2 : decode cX5_mix 2 = .ok (.bipush 7, 2) := by decide +kernel
theorem dX5_mix_4 : decode cX5_mix 4 = .ok (.invokestatic 93, 3) := by decide +kernel
theorem dX5_mix_7 : decode cX5_mix 7 = .ok (.ifCond .eq 12, 3) := by decide +kernel
theorem dX5_mix_10 : decode cX5_mix 10 = .ok (.iload_n 2, 1) := by decide +kernel
theorem dX5_mix_11 : decode cX5_mix 11 = .ok (.iconst 0, 1) := by decide +kernel
theorem dX5_mix_12 : decode cX5_mix 12 = .ok (.iconst 3, 1) := by decide +kernel
theorem dX5_mix_13 : decode cX5_mix 13 = .ok (.invokestatic 93, 3) := by decide +kernel
theorem dX5_mix_16 : decode cX5_mix 16 = .ok (.ifCond .ne 5, 3) := by decide +kernel
theorem dX5_mix_19 : decode cX5_mix 19 = .ok (.iconst (-1), 1) := by decide +kernel
theorem dX5_mix_20 : decode cX5_mix 20 = .ok (.ireturn, 1) := by decide +kernel
theorem dX5_mix_21 : decode cX5_mix 21 = .ok (.aload_n 0, 1) := by decide +kernel
theorem dX5_mix_22 : decode cX5_mix 22 = .ok (.getfield 60, 3) := by decide +kernel
theorem dX5_mix_25 : decode cX5_mix 25 = .ok (.iload_n 1, 1) := by decide +kernel
theorem dX5_mix_26 : decode cX5_mix 26 = .ok (.daload, 1) := by decide +kernel
theorem dX5_mix_27 : decode cX5_mix 27 = .ok (.ldc2_w 170, 3) := by decide +kernel
theorem dX5_mix_30 : decode cX5_mix 30 = .ok (.dmul, 1) := by decide +kernel
theorem dX5_mix_31 : decode cX5_mix 31 = .ok (.dstore_n 3, 1) := by decide +kernel
theorem dX5_mix_32 : decode cX5_mix 32 = .ok (.dload_n 3, 1) := by decide +kernel
theorem dX5_mix_33 : decode cX5_mix 33 = .ok (.d2i, 1) := by decide +kernel
theorem dX5_mix_34 : decode cX5_mix 34 = .ok (.istore 5, 2) := by decide +kernel
theorem dX5_mix_36 : decode cX5_mix 36 = .ok (.aload_n 0, 1) := by decide +kernel
theorem dX5_mix_37 : decode cX5_mix 37 = .ok (.iload_n 2, 1) := by decide +kernel
theorem dX5_mix_38 : decode cX5_mix 38 = .ok (.ifCond .ne 16, 3) := by decide +kernel
theorem dX5_mix_41 : decode cX5_mix 41 = .ok (.iconst 0, 1) := by decide +kernel
theorem dX5_mix_42 : decode cX5_mix 42 = .ok (.aload_n 0, 1) := by decide +kernel
theorem dX5_mix_43 : decode cX5_mix 43 = .ok (.getfield 60, 3) := by decide +kernel
theorem dX5_mix_46 : decode cX5_mix 46 = .ok (.iload_n 1, 1) := by decide +kernel
theorem dX5_mix_47 : decode cX5_mix 47 = .ok (.daload, 1) := by decide +kernel
theorem dX5_mix_48 : decode cX5_mix 48 = .ok (.invokestatic 125, 3) := by decide +kernel
theorem dX5_mix_51 : decode cX5_mix 51 = .ok (.goto 33, 3) := by decide +kernel
theorem dX5_mix_54 : decode cX5_mix 54 = .ok (.iload_n 2, 1) := by decide +kernel
theorem dX5_mix_55 : decode cX5_mix 55 = .ok (.iconst 1, 1) := by decide +kernel
theorem dX5_mix_56 : decode cX5_mix 56 = .ok (.if_icmp .ne 9, 3) := by decide +kernel
theorem dX5_mix_59 : decode cX5_mix 59 = .ok (.iload 5, 2) := by decide +kernel
theorem dX5_mix_61 : decode cX5_mix 61 = .ok (.i2l, 1) := by decide +kernel
theorem dX5_mix_62 : decode cX5_mix 62 = .ok (.goto 22, 3) := by decide +kernel
theorem dX5_mix_65 : decode cX5_mix 65 = .ok (.iload_n 2, 1) := by decide +kernel
theorem dX5_mix_66 : decode cX5_mix 66 = .ok (.iconst 2, 1) := by decide +kernel
theorem dX5_mix_67 : decode cX5_mix 67 = .ok (.if_icmp .ne 10, 3) := by decide +kernel
theorem dX5_mix_70 : decode cX5_mix 70 = .ok (.iload 5, 2) := by decide +kernel
theorem dX5_mix_72 : decode cX5_mix 72 = .ok (.i2s, 1) := by decide +kernel
theorem dX5_mix_73 : decode cX5_mix 73 = .ok (.i2l, 1) := by decide +kernel
theorem dX5_mix_74 : decode cX5_mix 74 = .ok (.goto 10, 3) := by decide +kernel
theorem dX5_mix_77 : decode cX5_mix 77 = .ok (.aload_n 0, 1) := by decide +kernel
theorem dX5_mix_78 : decode cX5_mix 78 = .ok (.getfield 60, 3) := by decide +kernel
theorem dX5_mix_81 : decode cX5_mix 81 = .ok (.iload_n 1, 1) := by decide +kernel
theorem dX5_mix_82 : decode cX5_mix 82 = .ok (.daload, 1) := by decide +kernel
theorem dX5_mix_83 : decode cX5_mix 83 = .ok (.d2l, 1) := by decide +kernel
theorem dX5_mix_84 : decode cX5_mix 84 = .ok (.putfield 129, 3) := by decide +kernel
theorem dX5_mix_87 : decode cX5_mix 87 = .ok (.iconst 1, 1) := by decide +kernel
theorem dX5_mix_88 : decode cX5_mix 88 = .ok (.ireturn, 1) := by decide +kernel
theorem dX5_hush_0 : decode cX5_hush 0 = .ok (.iconst 0, 1) := by decide +kernel
theorem dX5_hush_1 : decode cX5_hush 1 = .ok (.istore_n 1, 1) := by decide +kernel
theorem dX5_hush_2 : decode cX5_hush 2 = .ok (.iload_n 1, 1) := by decide +kernel
theorem dX5_hush_3 : decode cX5_hush 3 = .ok (.bipush 8, 2) := by decide +kernel
theorem dX5_hush_5 : decode cX5_hush 5 = .ok (.if_icmp .ge 16, 3) := by decide +kernel
theorem dX5_hush_8 : decode cX5_hush 8 = .ok (.aload_n 0, 1) := by decide +kernel
theorem dX5_hush_9 : decode cX5_hush 9 = .ok (.getfield 60, 3) := by decide +kernel
theorem dX5_hush_12 : decode cX5_hush 12 = .ok (.iload_n 1, 1) := by decide +kernel
theorem dX5_hush_13 : decode cX5_hush 13 = .ok (.dconst 0, 1) := by decide +kernel
theorem dX5_hush_14 : decode cX5_hush 14 = .ok (.dastore, 1) := by decide +kernel
theorem dX5_hush_15 : decode cX5_hush 15 = .ok (.iinc 1 1, 3) := by decide +kernel
theorem dX5_hush_18 : decode cX5_hush 18 = .ok (.goto (-16), 3) := by decide +kernel
theorem dX5_hush_21 : decode cX5_hush 21 = .ok (.iconst 1, 1) := by decide +kernel
theorem dX5_hush_22 : decode cX5_hush 22 = .ok (.ireturn, 1) := by decide +kernel
theorem dX5_at_0 : decode cX5_at 0 = .ok (.iload_n 1, 1) := by decide +kernel
theorem dX5_at_1 : decode cX5_at 1 = .ok (.iconst 0, 1) := by decide +kernel
theorem dX5_at_2 : decode cX5_at 2 = .ok (.iconst 3, 1) := by decide +kernel
theorem dX5_at_3 : decode cX5_at 3 = .ok (.invokestatic 93, 3) := by decide +kernel
theorem dX5_at_6 : decode cX5_at 6 = .ok (.ifCond .eq 21, 3) := by decide +kernel
theorem dX5_at_9 : decode cX5_at 9 = .ok (.aload_n 0, 1) := by decide +kernel
theorem dX5_at_10 : decode cX5_at 10 = .ok (.getfield 37, 3) := by decide +kernel
theorem dX5_at_13 : decode cX5_at 13 = .ok (.iload_n 1, 1) := by decide +kernel
theorem dX5_at_14 : decode cX5_at 14 = .ok (.baload, 1) := by decide +kernel
theorem dX5_at_15 : decode cX5_at 15 = .ok (.ifCond .eq 12, 3) := by decide +kernel
theorem dX5_at_18 : decode cX5_at 18 = .ok (.iload_n 2, 1) := by decide +kernel
theorem dX5_at_19 : decode cX5_at 19 = .ok (.iconst 0, 1) := by decide +kernel
theorem dX5_at_20 : decode cX5_at 20 = .ok (.iconst 1, 1) := by decide +kernel
theorem dX5_at_21 : decode cX5_at 21 = .ok (.invokestatic 93, 3) := by decide +kernel
theorem dX5_at_24 : decode cX5_at 24 = .ok (.ifCond .ne 5, 3) := by decide +kernel
theorem dX5_at_27 : decode cX5_at 27 = .ok (.iconst (-1), 1) := by decide +kernel
theorem dX5_at_28 : decode cX5_at 28 = .ok (.ireturn, 1) := by decide +kernel
theorem dX5_at_29 : decode cX5_at 29 = .ok (.aload_n 0, 1) := by decide +kernel
theorem dX5_at_30 : decode cX5_at 30 = .ok (.iload_n 2, 1) := by decide +kernel
theorem dX5_at_31 : decode cX5_at 31 = .ok (.ifCond .ne 16, 3) := by decide +kernel
theorem dX5_at_34 : decode cX5_at 34 = .ok (.iconst 1, 1) := by decide +kernel
theorem dX5_at_35 : decode cX5_at 35 = .ok (.aload_n 0, 1) := by decide +kernel
theorem dX5_at_36 : decode cX5_at 36 = .ok (.getfield 53, 3) := by decide +kernel
theorem dX5_at_39 : decode cX5_at 39 = .ok (.iload_n 1, 1) := by decide +kernel
theorem dX5_at_40 : decode cX5_at 40 = .ok (.daload, 1) := by decide +kernel
theorem dX5_at_41 : decode cX5_at 41 = .ok (.invokestatic 125, 3) := by decide +kernel
theorem dX5_at_44 : decode cX5_at 44 = .ok (.goto 9, 3) := by decide +kernel
theorem dX5_at_47 : decode cX5_at 47 = .ok (.aload_n 0, 1) := by decide +kernel
theorem dX5_at_48 : decode cX5_at 48 = .ok (.getfield 56, 3) := by decide +kernel
theorem dX5_at_51 : decode cX5_at 51 = .ok (.iload_n 1, 1) := by decide +kernel
theorem dX5_at_52 : decode cX5_at 52 = .ok (.laload, 1) := by decide +kernel
theorem dX5_at_53 : decode cX5_at 53 = .ok (.putfield 129, 3) := by decide +kernel
theorem dX5_at_56 : decode cX5_at 56 = .ok (.iconst 1, 1) := by decide +kernel
theorem dX5_at_57 : decode cX5_at 57 = .ok (.ireturn, 1) := by decide +kernel
theorem dX5_clock_0 : decode cX5_clock 0 = .ok (.iload_n 3, 1) := by decide +kernel
theorem dX5_clock_1 : decode cX5_clock 1 = .ok (.iconst 0, 1) := by decide +kernel
theorem dX5_clock_2 : decode cX5_clock 2 = .ok (.iconst 5, 1) := by decide +kernel
theorem dX5_clock_3 : decode cX5_clock 3 = .ok (.invokestatic 93, 3) := by decide +kernel
theorem dX5_clock_6 : decode cX5_clock 6 = .ok (.ifCond .ne 5, 3) := by decide +kernel
theorem dX5_clock_9 : decode cX5_clock 9 = .ok (.iconst (-1), 1) := by decide +kernel
theorem dX5_clock_10 : decode cX5_clock 10 = .ok (.ireturn, 1) := by decide +kernel
theorem dX5_clock_11 : decode cX5_clock 11 = .ok (.aload_n 0, 1) := by decide +kernel
theorem dX5_clock_12 : decode cX5_clock 12 = .ok (.aload_n 0, 1) := by decide +kernel
theorem dX5_clock_13 : decode cX5_clock 13 = .ok (.getfield 172, 3) := by decide +kernel
theorem dX5_clock_16 : decode cX5_clock 16 = .ok (.lload_n 1, 1) := by decide +kernel
theorem dX5_clock_17 : decode cX5_clock 17 = .ok (.ladd, 1) := by decide +kernel
theorem dX5_clock_18 : decode cX5_clock 18 = .ok (.putfield 172, 3) := by decide +kernel
theorem dX5_clock_21 : decode cX5_clock 21 = .ok (.iload_n 3, 1) := by decide +kernel
theorem dX5_clock_22 : decode cX5_clock 22 = .ok (.tableswitch 102 0 4 #[34, 45, 61, 76, 89], 34) := by decide +kernel
theorem dX5_clock_56 : decode cX5_clock 56 = .ok (.aload_n 0, 1) := by decide +kernel
theorem dX5_clock_57 : decode cX5_clock 57 = .ok (.aload_n 0, 1) := by decide +kernel
theorem dX5_clock_58 : decode cX5_clock 58 = .ok (.getfield 172, 3) := by decide +kernel
theorem dX5_clock_61 : decode cX5_clock 61 = .ok (.putfield 129, 3) := by decide +kernel
theorem dX5_clock_64 : decode cX5_clock 64 = .ok (.goto 71, 3) := by decide +kernel
theorem dX5_clock_67 : decode cX5_clock 67 = .ok (.aload_n 0, 1) := by decide +kernel
theorem dX5_clock_68 : decode cX5_clock 68 = .ok (.aload_n 0, 1) := by decide +kernel
theorem dX5_clock_69 : decode cX5_clock 69 = .ok (.getfield 172, 3) := by decide +kernel
theorem dX5_clock_72 : decode cX5_clock 72 = .ok (.l2f, 1) := by decide +kernel
theorem dX5_clock_73 : decode cX5_clock 73 = .ok (.invokestatic 83, 3) := by decide +kernel
theorem dX5_clock_76 : decode cX5_clock 76 = .ok (.i2l, 1) := by decide +kernel
theorem dX5_clock_77 : decode cX5_clock 77 = .ok (.putfield 129, 3) := by decide +kernel
theorem dX5_clock_80 : decode cX5_clock 80 = .ok (.goto 55, 3) := by decide +kernel
theorem dX5_clock_83 : decode cX5_clock 83 = .ok (.aload_n 0, 1) := by decide +kernel
theorem dX5_clock_84 : decode cX5_clock 84 = .ok (.aload_n 0, 1) := by decide +kernel
theorem dX5_clock_85 : decode cX5_clock 85 = .ok (.getfield 172, 3) := by decide +kernel
theorem dX5_clock_88 : decode cX5_clock 88 = .ok (.l2d, 1) := by decide +kernel
theorem dX5_clock_89 : decode cX5_clock 89 = .ok (.invokestatic 79, 3) := by decide +kernel
theorem dX5_clock_92 : decode cX5_clock 92 = .ok (.putfield 129, 3) := by decide +kernel
theorem dX5_clock_95 : decode cX5_clock 95 = .ok (.goto 40, 3) := by decide +kernel
theorem dX5_clock_98 : decode cX5_clock 98 = .ok (.aload_n 0, 1) := by decide +kernel
theorem dX5_clock_99 : decode cX5_clock 99 = .ok (.aload_n 0, 1) := by decide +kernel
theorem dX5_clock_100 : decode cX5_clock 100 = .ok (.getfield 172, 3) := by decide +kernel
theorem dX5_clock_103 : decode cX5_clock 103 = .ok (.l2f, 1) := by decide +kernel
theorem dX5_clock_104 : decode cX5_clock 104 = .ok (.f2l, 1) := by decide +kernel
theorem dX5_clock_105 : decode cX5_clock 105 = .ok (.putfield 129, 3) := by decide +kernel
theorem dX5_clock_108 : decode cX5_clock 108 = .ok (.goto 27, 3) := by decide +kernel
theorem dX5_clock_111 : decode cX5_clock 111 = .ok (.aload_n 0, 1) := by decide +kernel
theorem dX5_clock_112 : decode cX5_clock 112 = .ok (.aload_n 0, 1) := by decide +kernel
theorem dX5_clock_113 : decode cX5_clock 113 = .ok (.getfield 172, 3) := by decide +kernel
theorem dX5_clock_116 : decode cX5_clock 116 = .ok (.l2d, 1) := by decide +kernel
theorem dX5_clock_117 : decode cX5_clock 117 = .ok (.d2l, 1) := by decide +kernel
theorem dX5_clock_118 : decode cX5_clock 118 = .ok (.putfield 129, 3) := by decide +kernel
theorem dX5_clock_121 : decode cX5_clock 121 = .ok (.goto 14, 3) := by decide +kernel
theorem dX5_clock_124 : decode cX5_clock 124 = .ok (.aload_n 0, 1) := by decide +kernel
theorem dX5_clock_125 : decode cX5_clock 125 = .ok (.aload_n 0, 1) := by decide +kernel
theorem dX5_clock_126 : decode cX5_clock 126 = .ok (.getfield 172, 3) := by decide +kernel
theorem dX5_clock_129 : decode cX5_clock 129 = .ok (.l2f, 1) := by decide +kernel
theorem dX5_clock_130 : decode cX5_clock 130 = .ok (.f2i, 1) := by decide +kernel
theorem dX5_clock_131 : decode cX5_clock 131 = .ok (.i2l, 1) := by decide +kernel
theorem dX5_clock_132 : decode cX5_clock 132 = .ok (.putfield 129, 3) := by decide +kernel
theorem dX5_clock_135 : decode cX5_clock 135 = .ok (.iconst 1, 1) := by decide +kernel
theorem dX5_clock_136 : decode cX5_clock 136 = .ok (.ireturn, 1) := by decide +kernel
theorem dX5_told_0 : decode cX5_told 0 = .ok (.aload_n 0, 1) := by decide +kernel
theorem dX5_told_1 : decode cX5_told 1 = .ok (.getfield 129, 3) := by decide +kernel
theorem dX5_told_4 : decode cX5_told 4 = .ok (.lreturn, 1) := by decide +kernel
theorem dJxe99ae_isNaN_b9ae7_0 : decode cJxe99ae_isNaN_b9ae7 0 = .ok (.dload_n 0, 1) := by decide +kernel
theorem dJxe99ae_isNaN_b9ae7_1 : decode cJxe99ae_isNaN_b9ae7 1 = .ok (.dload_n 0, 1) := by decide +kernel
theorem dJxe99ae_isNaN_b9ae7_2 : decode cJxe99ae_isNaN_b9ae7 2 = .ok (.dcmp .l, 1) := by decide +kernel
theorem dJxe99ae_isNaN_b9ae7_3 : decode cJxe99ae_isNaN_b9ae7 3 = .ok (.ifCond .eq 7, 3) := by decide +kernel
theorem dJxe99ae_isNaN_b9ae7_6 : decode cJxe99ae_isNaN_b9ae7 6 = .ok (.iconst 1, 1) := by decide +kernel
theorem dJxe99ae_isNaN_b9ae7_7 : decode cJxe99ae_isNaN_b9ae7 7 = .ok (.goto 4, 3) := by decide +kernel
theorem dJxe99ae_isNaN_b9ae7_10 : decode cJxe99ae_isNaN_b9ae7 10 = .ok (.iconst 0, 1) := by decide +kernel
theorem dJxe99ae_isNaN_b9ae7_11 : decode cJxe99ae_isNaN_b9ae7 11 = .ok (.ireturn, 1) := by decide +kernel
theorem dJxe99ae_doubleToLongBits_ccdee_0 : decode cJxe99ae_doubleToLongBits_ccdee 0 = .ok (.dload_n 0, 1) := by decide +kernel
theorem dJxe99ae_doubleToLongBits_ccdee_1 : decode cJxe99ae_doubleToLongBits_ccdee 1 = .ok (.invokestatic 122, 3) := by decide +kernel
theorem dJxe99ae_doubleToLongBits_ccdee_4 : decode cJxe99ae_doubleToLongBits_ccdee 4 = .ok (.ifCond .ne 8, 3) := by decide +kernel
theorem dJxe99ae_doubleToLongBits_ccdee_7 : decode cJxe99ae_doubleToLongBits_ccdee 7 = .ok (.dload_n 0, 1) := by decide +kernel
theorem dJxe99ae_doubleToLongBits_ccdee_8 : decode cJxe99ae_doubleToLongBits_ccdee 8 = .ok (.invokestatic 134, 3) := by decide +kernel
theorem dJxe99ae_doubleToLongBits_ccdee_11 : decode cJxe99ae_doubleToLongBits_ccdee 11 = .ok (.lreturn, 1) := by decide +kernel
theorem dJxe99ae_doubleToLongBits_ccdee_12 : decode cJxe99ae_doubleToLongBits_ccdee 12 = .ok (.ldc2_w 137, 3) := by decide +kernel
theorem dJxe99ae_doubleToLongBits_ccdee_15 : decode cJxe99ae_doubleToLongBits_ccdee 15 = .ok (.lreturn, 1) := by decide +kernel
theorem dJxf58ca_isNaN_12338_0 : decode cJxf58ca_isNaN_12338 0 = .ok (.fload_n 0, 1) := by decide +kernel
theorem dJxf58ca_isNaN_12338_1 : decode cJxf58ca_isNaN_12338 1 = .ok (.fload_n 0, 1) := by decide +kernel
theorem dJxf58ca_isNaN_12338_2 : decode cJxf58ca_isNaN_12338 2 = .ok (.fcmp .l, 1) := by decide +kernel
theorem dJxf58ca_isNaN_12338_3 : decode cJxf58ca_isNaN_12338 3 = .ok (.ifCond .eq 7, 3) := by decide +kernel
theorem dJxf58ca_isNaN_12338_6 : decode cJxf58ca_isNaN_12338 6 = .ok (.iconst 1, 1) := by decide +kernel
theorem dJxf58ca_isNaN_12338_7 : decode cJxf58ca_isNaN_12338 7 = .ok (.goto 4, 3) := by decide +kernel
theorem dJxf58ca_isNaN_12338_10 : decode cJxf58ca_isNaN_12338 10 = .ok (.iconst 0, 1) := by decide +kernel
theorem dJxf58ca_isNaN_12338_11 : decode cJxf58ca_isNaN_12338 11 = .ok (.ireturn, 1) := by decide +kernel
theorem dJxf58ca_floatToIntBits_5c35a_0 : decode cJxf58ca_floatToIntBits_5c35a 0 = .ok (.fload_n 0, 1) := by decide +kernel
theorem dJxf58ca_floatToIntBits_5c35a_1 : decode cJxf58ca_floatToIntBits_5c35a 1 = .ok (.invokestatic 59, 3) := by decide +kernel
theorem dJxf58ca_floatToIntBits_5c35a_4 : decode cJxf58ca_floatToIntBits_5c35a 4 = .ok (.ifCond .ne 8, 3) := by decide +kernel
theorem dJxf58ca_floatToIntBits_5c35a_7 : decode cJxf58ca_floatToIntBits_5c35a 7 = .ok (.fload_n 0, 1) := by decide +kernel
theorem dJxf58ca_floatToIntBits_5c35a_8 : decode cJxf58ca_floatToIntBits_5c35a 8 = .ok (.invokestatic 74, 3) := by decide +kernel
theorem dJxf58ca_floatToIntBits_5c35a_11 : decode cJxf58ca_floatToIntBits_5c35a 11 = .ok (.ireturn, 1) := by decide +kernel
theorem dJxf58ca_floatToIntBits_5c35a_12 : decode cJxf58ca_floatToIntBits_5c35a 12 = .ok (.ldc 77, 2) := by decide +kernel
theorem dJxf58ca_floatToIntBits_5c35a_14 : decode cJxf58ca_floatToIntBits_5c35a 14 = .ok (.ireturn, 1) := by decide +kernel
theorem dJ9_abs_0f7a4_0 : decode cJ9_abs_0f7a4 0 = .ok (.iload_n 0, 1) := by decide +kernel
theorem dJ9_abs_0f7a4_1 : decode cJ9_abs_0f7a4 1 = .ok (.ifCond .ge 8, 3) := by decide +kernel
theorem dJ9_abs_0f7a4_4 : decode cJ9_abs_0f7a4 4 = .ok (.iload_n 0, 1) := by decide +kernel
theorem dJ9_abs_0f7a4_5 : decode cJ9_abs_0f7a4 5 = .ok (.ineg, 1) := by decide +kernel
theorem dJ9_abs_0f7a4_6 : decode cJ9_abs_0f7a4 6 = .ok (.goto 4, 3) := by decide +kernel
theorem dJ9_abs_0f7a4_9 : decode cJ9_abs_0f7a4 9 = .ok (.iload_n 0, 1) := by decide +kernel
theorem dJ9_abs_0f7a4_10 : decode cJ9_abs_0f7a4 10 = .ok (.ireturn, 1) := by decide +kernel
theorem dL_law_0 : decode cL_law 0 = .ok (.new 7, 3) := by decide +kernel
theorem dL_law_3 : decode cL_law 3 = .ok (.dup, 1) := by decide +kernel
theorem dL_law_4 : decode cL_law 4 = .ok (.invokespecial 9, 3) := by decide +kernel
theorem dL_law_7 : decode cL_law 7 = .ok (.astore_n 1, 1) := by decide +kernel
theorem dL_law_8 : decode cL_law 8 = .ok (.new 10, 3) := by decide +kernel
theorem dL_law_11 : decode cL_law 11 = .ok (.dup, 1) := by decide +kernel
theorem dL_law_12 : decode cL_law 12 = .ok (.invokespecial 12, 3) := by decide +kernel
theorem dL_law_15 : decode cL_law 15 = .ok (.astore_n 2, 1) := by decide +kernel
theorem dL_law_16 : decode cL_law 16 = .ok (.iconst 0, 1) := by decide +kernel
theorem dL_law_17 : decode cL_law 17 = .ok (.istore_n 3, 1) := by decide +kernel
theorem dL_law_18 : decode cL_law 18 = .ok (.iload_n 3, 1) := by decide +kernel
theorem dL_law_19 : decode cL_law 19 = .ok (.aload_n 0, 1) := by decide +kernel
theorem dL_law_20 : decode cL_law 20 = .ok (.arraylength, 1) := by decide +kernel
theorem dL_law_21 : decode cL_law 21 = .ok (.bipush 7, 2) := by decide +kernel
theorem dL_law_23 : decode cL_law 23 = .ok (.isub, 1) := by decide +kernel
theorem dL_law_24 : decode cL_law 24 = .ok (.if_icmp .gt 1062, 3) := by decide +kernel
theorem dL_law_27 : decode cL_law 27 = .ok (.aload_n 0, 1) := by decide +kernel
theorem dL_law_28 : decode cL_law 28 = .ok (.iload_n 3, 1) := by decide +kernel
theorem dL_law_29 : decode cL_law 29 = .ok (.iaload, 1) := by decide +kernel
theorem dL_law_30 : decode cL_law 30 = .ok (.bipush 31, 2) := by decide +kernel
theorem dL_law_32 : decode cL_law 32 = .ok (.iand, 1) := by decide +kernel
theorem dL_law_33 : decode cL_law 33 = .ok (.tableswitch 1047 0 18 #[91, 150, 209, 258, 357, 416, 485, 558, 621, 654, 697, 750, 845, 878, 891, 924, 937, 970, 1033], 91) := by decide +kernel
theorem dL_law_124 : decode cL_law 124 = .ok (.aload_n 1, 1) := by decide +kernel
theorem dL_law_125 : decode cL_law 125 = .ok (.aload_n 0, 1) := by decide +kernel
theorem dL_law_126 : decode cL_law 126 = .ok (.iload_n 3, 1) := by decide +kernel
theorem dL_law_127 : decode cL_law 127 = .ok (.iconst 1, 1) := by decide +kernel
theorem dL_law_128 : decode cL_law 128 = .ok (.iadd, 1) := by decide +kernel
theorem dL_law_129 : decode cL_law 129 = .ok (.iaload, 1) := by decide +kernel
theorem dL_law_130 : decode cL_law 130 = .ok (.ifCond .eq 7, 3) := by decide +kernel
theorem dL_law_133 : decode cL_law 133 = .ok (.iconst 1, 1) := by decide +kernel
theorem dL_law_134 : decode cL_law 134 = .ok (.goto 4, 3) := by decide +kernel
theorem dL_law_137 : decode cL_law 137 = .ok (.iconst 0, 1) := by decide +kernel
theorem dL_law_138 : decode cL_law 138 = .ok (.aload_n 0, 1) := by decide +kernel
theorem dL_law_139 : decode cL_law 139 = .ok (.iload_n 3, 1) := by decide +kernel
theorem dL_law_140 : decode cL_law 140 = .ok (.iconst 2, 1) := by decide +kernel
theorem dL_law_141 : decode cL_law 141 = .ok (.iadd, 1) := by decide +kernel
theorem dL_law_142 : decode cL_law 142 = .ok (.iaload, 1) := by decide +kernel
theorem dL_law_143 : decode cL_law 143 = .ok (.aload_n 0, 1) := by decide +kernel
theorem dL_law_144 : decode cL_law 144 = .ok (.iload_n 3, 1) := by decide +kernel
theorem dL_law_145 : decode cL_law 145 = .ok (.iconst 3, 1) := by decide +kernel
theorem dL_law_146 : decode cL_law 146 = .ok (.iadd, 1) := by decide +kernel
theorem dL_law_147 : decode cL_law 147 = .ok (.iaload, 1) := by decide +kernel
theorem dL_law_148 : decode cL_law 148 = .ok (.invokevirtual 13, 3) := by decide +kernel
theorem dL_law_151 : decode cL_law 151 = .ok (.aload_n 2, 1) := by decide +kernel
theorem dL_law_152 : decode cL_law 152 = .ok (.aload_n 0, 1) := by decide +kernel
theorem dL_law_153 : decode cL_law 153 = .ok (.iload_n 3, 1) := by decide +kernel
theorem dL_law_154 : decode cL_law 154 = .ok (.iconst 1, 1) := by decide +kernel
theorem dL_law_155 : decode cL_law 155 = .ok (.iadd, 1) := by decide +kernel
theorem dL_law_156 : decode cL_law 156 = .ok (.iaload, 1) := by decide +kernel
theorem dL_law_157 : decode cL_law 157 = .ok (.ifCond .eq 7, 3) := by decide +kernel
theorem dL_law_160 : decode cL_law 160 = .ok (.iconst 1, 1) := by decide +kernel
theorem dL_law_161 : decode cL_law 161 = .ok (.goto 4, 3) := by decide +kernel
theorem dL_law_164 : decode cL_law 164 = .ok (.iconst 0, 1) := by decide +kernel
theorem dL_law_165 : decode cL_law 165 = .ok (.aload_n 0, 1) := by decide +kernel
theorem dL_law_166 : decode cL_law 166 = .ok (.iload_n 3, 1) := by decide +kernel
theorem dL_law_167 : decode cL_law 167 = .ok (.iconst 2, 1) := by decide +kernel
theorem dL_law_168 : decode cL_law 168 = .ok (.iadd, 1) := by decide +kernel
theorem dL_law_169 : decode cL_law 169 = .ok (.iaload, 1) := by decide +kernel
theorem dL_law_170 : decode cL_law 170 = .ok (.aload_n 0, 1) := by decide +kernel
theorem dL_law_171 : decode cL_law 171 = .ok (.iload_n 3, 1) := by decide +kernel
theorem dL_law_172 : decode cL_law 172 = .ok (.iconst 3, 1) := by decide +kernel
theorem dL_law_173 : decode cL_law 173 = .ok (.iadd, 1) := by decide +kernel
theorem dL_law_174 : decode cL_law 174 = .ok (.iaload, 1) := by decide +kernel
theorem dL_law_175 : decode cL_law 175 = .ok (.invokevirtual 17, 3) := by decide +kernel
theorem dL_law_178 : decode cL_law 178 = .ok (.if_icmp .eq 902, 3) := by decide +kernel
theorem dL_law_181 : decode cL_law 181 = .ok (.iconst 0, 1) := by decide +kernel
theorem dL_law_182 : decode cL_law 182 = .ok (.ireturn, 1) := by decide +kernel
theorem dL_law_183 : decode cL_law 183 = .ok (.aload_n 1, 1) := by decide +kernel
theorem dL_law_184 : decode cL_law 184 = .ok (.aload_n 0, 1) := by decide +kernel
theorem dL_law_185 : decode cL_law 185 = .ok (.iload_n 3, 1) := by decide +kernel
theorem dL_law_186 : decode cL_law 186 = .ok (.iconst 1, 1) := by decide +kernel
theorem dL_law_187 : decode cL_law 187 = .ok (.iadd, 1) := by decide +kernel
theorem dL_law_188 : decode cL_law 188 = .ok (.iaload, 1) := by decide +kernel
theorem dL_law_189 : decode cL_law 189 = .ok (.ifCond .eq 7, 3) := by decide +kernel
theorem dL_law_192 : decode cL_law 192 = .ok (.iconst 1, 1) := by decide +kernel
theorem dL_law_193 : decode cL_law 193 = .ok (.goto 4, 3) := by decide +kernel
theorem dL_law_196 : decode cL_law 196 = .ok (.iconst 0, 1) := by decide +kernel
theorem dL_law_197 : decode cL_law 197 = .ok (.aload_n 0, 1) := by decide +kernel
theorem dL_law_198 : decode cL_law 198 = .ok (.iload_n 3, 1) := by decide +kernel
theorem dL_law_199 : decode cL_law 199 = .ok (.iconst 2, 1) := by decide +kernel
theorem dL_law_200 : decode cL_law 200 = .ok (.iadd, 1) := by decide +kernel
theorem dL_law_201 : decode cL_law 201 = .ok (.iaload, 1) := by decide +kernel
theorem dL_law_202 : decode cL_law 202 = .ok (.aload_n 0, 1) := by decide +kernel
theorem dL_law_203 : decode cL_law 203 = .ok (.iload_n 3, 1) := by decide +kernel
theorem dL_law_204 : decode cL_law 204 = .ok (.iconst 3, 1) := by decide +kernel
theorem dL_law_205 : decode cL_law 205 = .ok (.iadd, 1) := by decide +kernel
theorem dL_law_206 : decode cL_law 206 = .ok (.iaload, 1) := by decide +kernel
theorem dL_law_207 : decode cL_law 207 = .ok (.invokevirtual 18, 3) := by decide +kernel
theorem dL_law_210 : decode cL_law 210 = .ok (.aload_n 2, 1) := by decide +kernel
theorem dL_law_211 : decode cL_law 211 = .ok (.aload_n 0, 1) := by decide +kernel
theorem dL_law_212 : decode cL_law 212 = .ok (.iload_n 3, 1) := by decide +kernel
theorem dL_law_213 : decode cL_law 213 = .ok (.iconst 1, 1) := by decide +kernel
theorem dL_law_214 : decode cL_law 214 = .ok (.iadd, 1) := by decide +kernel
theorem dL_law_215 : decode cL_law 215 = .ok (.iaload, 1) := by decide +kernel
theorem dL_law_216 : decode cL_law 216 = .ok (.ifCond .eq 7, 3) := by decide +kernel
theorem dL_law_219 : decode cL_law 219 = .ok (.iconst 1, 1) := by decide +kernel
theorem dL_law_220 : decode cL_law 220 = .ok (.goto 4, 3) := by decide +kernel
theorem dL_law_223 : decode cL_law 223 = .ok (.iconst 0, 1) := by decide +kernel
theorem dL_law_224 : decode cL_law 224 = .ok (.aload_n 0, 1) := by decide +kernel
theorem dL_law_225 : decode cL_law 225 = .ok (.iload_n 3, 1) := by decide +kernel
theorem dL_law_226 : decode cL_law 226 = .ok (.iconst 2, 1) := by decide +kernel
theorem dL_law_227 : decode cL_law 227 = .ok (.iadd, 1) := by decide +kernel
theorem dL_law_228 : decode cL_law 228 = .ok (.iaload, 1) := by decide +kernel
theorem dL_law_229 : decode cL_law 229 = .ok (.aload_n 0, 1) := by decide +kernel
theorem dL_law_230 : decode cL_law 230 = .ok (.iload_n 3, 1) := by decide +kernel
theorem dL_law_231 : decode cL_law 231 = .ok (.iconst 3, 1) := by decide +kernel
theorem dL_law_232 : decode cL_law 232 = .ok (.iadd, 1) := by decide +kernel
theorem dL_law_233 : decode cL_law 233 = .ok (.iaload, 1) := by decide +kernel
theorem dL_law_234 : decode cL_law 234 = .ok (.invokevirtual 21, 3) := by decide +kernel
theorem dL_law_237 : decode cL_law 237 = .ok (.if_icmp .eq 843, 3) := by decide +kernel
theorem dL_law_240 : decode cL_law 240 = .ok (.iconst 0, 1) := by decide +kernel
theorem dL_law_241 : decode cL_law 241 = .ok (.ireturn, 1) := by decide +kernel
theorem dL_law_242 : decode cL_law 242 = .ok (.aload_n 1, 1) := by decide +kernel
theorem dL_law_243 : decode cL_law 243 = .ok (.aload_n 0, 1) := by decide +kernel
theorem dL_law_244 : decode cL_law 244 = .ok (.iload_n 3, 1) := by decide +kernel
theorem dL_law_245 : decode cL_law 245 = .ok (.iconst 1, 1) := by decide +kernel
