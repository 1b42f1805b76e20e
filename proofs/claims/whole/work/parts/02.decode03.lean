theorem dX4_share_42 : decode cX4_share 42 = .ok (.iconst 1, 1) := by decide +kernel
theorem dX4_share_43 : decode cX4_share 43 = .ok (.goto 4, 3) := by decide +kernel
theorem dX4_share_46 : decode cX4_share 46 = .ok (.iconst 0, 1) := by decide +kernel
theorem dX4_share_47 : decode cX4_share 47 = .ok (.ireturn, 1) := by decide +kernel
theorem dX4_drop_0 : decode cX4_drop 0 = .ok (.iload_n 2, 1) := by decide +kernel
theorem dX4_drop_1 : decode cX4_drop 1 = .ok (.bipush 6, 2) := by decide +kernel
theorem dX4_drop_3 : decode cX4_drop 3 = .ok (.invokestatic 58, 3) := by decide +kernel
theorem dX4_drop_6 : decode cX4_drop 6 = .ok (.ifCond .ne 5, 3) := by decide +kernel
theorem dX4_drop_9 : decode cX4_drop 9 = .ok (.iconst (-1), 1) := by decide +kernel
theorem dX4_drop_10 : decode cX4_drop 10 = .ok (.ireturn, 1) := by decide +kernel
theorem dX4_drop_11 : decode cX4_drop 11 = .ok (.aload_n 0, 1) := by decide +kernel
theorem dX4_drop_12 : decode cX4_drop 12 = .ok (.iload_n 1, 1) := by decide +kernel
theorem dX4_drop_13 : decode cX4_drop 13 = .ok (.invokevirtual 62, 3) := by decide +kernel
theorem dX4_drop_16 : decode cX4_drop 16 = .ok (.astore_n 3, 1) := by decide +kernel
theorem dX4_drop_17 : decode cX4_drop 17 = .ok (.aload_n 3, 1) := by decide +kernel
theorem dX4_drop_18 : decode cX4_drop 18 = .ok (.iload_n 2, 1) := by decide +kernel
theorem dX4_drop_19 : decode cX4_drop 19 = .ok (.aaload, 1) := by decide +kernel
theorem dX4_drop_20 : decode cX4_drop 20 = .ok (.ifnull 7, 3) := by decide +kernel
theorem dX4_drop_23 : decode cX4_drop 23 = .ok (.iconst 1, 1) := by decide +kernel
theorem dX4_drop_24 : decode cX4_drop 24 = .ok (.goto 4, 3) := by decide +kernel
theorem dX4_drop_27 : decode cX4_drop 27 = .ok (.iconst 0, 1) := by decide +kernel
theorem dX4_drop_28 : decode cX4_drop 28 = .ok (.istore 4, 2) := by decide +kernel
theorem dX4_drop_30 : decode cX4_drop 30 = .ok (.aload_n 3, 1) := by decide +kernel
theorem dX4_drop_31 : decode cX4_drop 31 = .ok (.iload_n 2, 1) := by decide +kernel
theorem dX4_drop_32 : decode cX4_drop 32 = .ok (.aconst_null, 1) := by decide +kernel
theorem dX4_drop_33 : decode cX4_drop 33 = .ok (.aastore, 1) := by decide +kernel
theorem dX4_drop_34 : decode cX4_drop 34 = .ok (.iload 4, 2) := by decide +kernel
theorem dX4_drop_36 : decode cX4_drop 36 = .ok (.ifCond .eq 7, 3) := by decide +kernel
theorem dX4_drop_39 : decode cX4_drop 39 = .ok (.iconst 1, 1) := by decide +kernel
theorem dX4_drop_40 : decode cX4_drop 40 = .ok (.goto 4, 3) := by decide +kernel
theorem dX4_drop_43 : decode cX4_drop 43 = .ok (.iconst 0, 1) := by decide +kernel
theorem dX4_drop_44 : decode cX4_drop 44 = .ok (.ireturn, 1) := by decide +kernel
theorem dX4_set_0 : decode cX4_set 0 = .ok (.iload_n 2, 1) := by decide +kernel
theorem dX4_set_1 : decode cX4_set 1 = .ok (.bipush 6, 2) := by decide +kernel
theorem dX4_set_3 : decode cX4_set 3 = .ok (.invokestatic 58, 3) := by decide +kernel
theorem dX4_set_6 : decode cX4_set 6 = .ok (.ifCond .eq 26, 3) := by decide +kernel
theorem dX4_set_9 : decode cX4_set 9 = .ok (.iload_n 1, 1) := by decide +kernel
theorem dX4_set_10 : decode cX4_set 10 = .ok (.ifCond .eq 14, 3) := by decide +kernel
theorem dX4_set_13 : decode cX4_set 13 = .ok (.lload 4, 2) := by decide +kernel
theorem dX4_set_15 : decode cX4_set 15 = .ok (.invokestatic 66, 3) := by decide +kernel
theorem dX4_set_18 : decode cX4_set 18 = .ok (.ifCond .eq 14, 3) := by decide +kernel
theorem dX4_set_21 : decode cX4_set 21 = .ok (.goto 13, 3) := by decide +kernel
theorem dX4_set_24 : decode cX4_set 24 = .ok (.lload 4, 2) := by decide +kernel
theorem dX4_set_26 : decode cX4_set 26 = .ok (.invokestatic 70, 3) := by decide +kernel
theorem dX4_set_29 : decode cX4_set 29 = .ok (.ifCond .ne 5, 3) := by decide +kernel
theorem dX4_set_32 : decode cX4_set 32 = .ok (.iconst (-1), 1) := by decide +kernel
theorem dX4_set_33 : decode cX4_set 33 = .ok (.ireturn, 1) := by decide +kernel
theorem dX4_set_34 : decode cX4_set 34 = .ok (.aload_n 0, 1) := by decide +kernel
theorem dX4_set_35 : decode cX4_set 35 = .ok (.iload_n 1, 1) := by decide +kernel
theorem dX4_set_36 : decode cX4_set 36 = .ok (.invokevirtual 62, 3) := by decide +kernel
theorem dX4_set_39 : decode cX4_set 39 = .ok (.iload_n 2, 1) := by decide +kernel
theorem dX4_set_40 : decode cX4_set 40 = .ok (.aaload, 1) := by decide +kernel
theorem dX4_set_41 : decode cX4_set 41 = .ok (.astore 6, 2) := by decide +kernel
theorem dX4_set_43 : decode cX4_set 43 = .ok (.aload 6, 2) := by decide +kernel
theorem dX4_set_45 : decode cX4_set 45 = .ok (.ifnonnull 8, 3) := by decide +kernel
theorem dX4_set_48 : decode cX4_set 48 = .ok (.iconst 1, 1) := by decide +kernel
theorem dX4_set_49 : decode cX4_set 49 = .ok (.invokestatic 73, 3) := by decide +kernel
theorem dX4_set_52 : decode cX4_set 52 = .ok (.ireturn, 1) := by decide +kernel
theorem dX4_set_53 : decode cX4_set 53 = .ok (.iload_n 3, 1) := by decide +kernel
theorem dX4_set_54 : decode cX4_set 54 = .ok (.aload 6, 2) := by decide +kernel
theorem dX4_set_56 : decode cX4_set 56 = .ok (.arraylength, 1) := by decide +kernel
theorem dX4_set_57 : decode cX4_set 57 = .ok (.invokestatic 58, 3) := by decide +kernel
theorem dX4_set_60 : decode cX4_set 60 = .ok (.ifCond .ne 8, 3) := by decide +kernel
theorem dX4_set_63 : decode cX4_set 63 = .ok (.iconst 2, 1) := by decide +kernel
theorem dX4_set_64 : decode cX4_set 64 = .ok (.invokestatic 73, 3) := by decide +kernel
theorem dX4_set_67 : decode cX4_set 67 = .ok (.ireturn, 1) := by decide +kernel
theorem dX4_set_68 : decode cX4_set 68 = .ok (.aload 6, 2) := by decide +kernel
theorem dX4_set_70 : decode cX4_set 70 = .ok (.iload_n 3, 1) := by decide +kernel
theorem dX4_set_71 : decode cX4_set 71 = .ok (.iload_n 1, 1) := by decide +kernel
theorem dX4_set_72 : decode cX4_set 72 = .ok (.ifCond .eq 15, 3) := by decide +kernel
theorem dX4_set_75 : decode cX4_set 75 = .ok (.aload_n 0, 1) := by decide +kernel
theorem dX4_set_76 : decode cX4_set 76 = .ok (.getfield 10, 3) := by decide +kernel
theorem dX4_set_79 : decode cX4_set 79 = .ok (.lload 4, 2) := by decide +kernel
theorem dX4_set_81 : decode cX4_set 81 = .ok (.invokevirtual 77, 3) := by decide +kernel
theorem dX4_set_84 : decode cX4_set 84 = .ok (.goto 13, 3) := by decide +kernel
theorem dX4_set_87 : decode cX4_set 87 = .ok (.aload_n 0, 1) := by decide +kernel
theorem dX4_set_88 : decode cX4_set 88 = .ok (.getfield 10, 3) := by decide +kernel
theorem dX4_set_91 : decode cX4_set 91 = .ok (.lload 4, 2) := by decide +kernel
theorem dX4_set_93 : decode cX4_set 93 = .ok (.invokevirtual 81, 3) := by decide +kernel
theorem dX4_set_96 : decode cX4_set 96 = .ok (.f2d, 1) := by decide +kernel
theorem dX4_set_97 : decode cX4_set 97 = .ok (.dastore, 1) := by decide +kernel
theorem dX4_set_98 : decode cX4_set 98 = .ok (.iconst 1, 1) := by decide +kernel
theorem dX4_set_99 : decode cX4_set 99 = .ok (.ireturn, 1) := by decide +kernel
theorem dX4_get_0 : decode cX4_get 0 = .ok (.iload_n 2, 1) := by decide +kernel
theorem dX4_get_1 : decode cX4_get 1 = .ok (.bipush 6, 2) := by decide +kernel
theorem dX4_get_3 : decode cX4_get 3 = .ok (.invokestatic 58, 3) := by decide +kernel
theorem dX4_get_6 : decode cX4_get 6 = .ok (.ifCond .ne 5, 3) := by decide +kernel
theorem dX4_get_9 : decode cX4_get 9 = .ok (.iconst (-1), 1) := by decide +kernel
theorem dX4_get_10 : decode cX4_get 10 = .ok (.ireturn, 1) := by decide +kernel
theorem dX4_get_11 : decode cX4_get 11 = .ok (.aload_n 0, 1) := by decide +kernel
theorem dX4_get_12 : decode cX4_get 12 = .ok (.iload_n 1, 1) := by decide +kernel
theorem dX4_get_13 : decode cX4_get 13 = .ok (.invokevirtual 62, 3) := by decide +kernel
theorem dX4_get_16 : decode cX4_get 16 = .ok (.iload_n 2, 1) := by decide +kernel
theorem dX4_get_17 : decode cX4_get 17 = .ok (.aaload, 1) := by decide +kernel
theorem dX4_get_18 : decode cX4_get 18 = .ok (.astore 4, 2) := by decide +kernel
theorem dX4_get_20 : decode cX4_get 20 = .ok (.aload 4, 2) := by decide +kernel
theorem dX4_get_22 : decode cX4_get 22 = .ok (.ifnonnull 8, 3) := by decide +kernel
theorem dX4_get_25 : decode cX4_get 25 = .ok (.iconst 1, 1) := by decide +kernel
theorem dX4_get_26 : decode cX4_get 26 = .ok (.invokestatic 73, 3) := by decide +kernel
theorem dX4_get_29 : decode cX4_get 29 = .ok (.ireturn, 1) := by decide +kernel
theorem dX4_get_30 : decode cX4_get 30 = .ok (.iload_n 3, 1) := by decide +kernel
theorem dX4_get_31 : decode cX4_get 31 = .ok (.aload 4, 2) := by decide +kernel
theorem dX4_get_33 : decode cX4_get 33 = .ok (.arraylength, 1) := by decide +kernel
theorem dX4_get_34 : decode cX4_get 34 = .ok (.invokestatic 58, 3) := by decide +kernel
theorem dX4_get_37 : decode cX4_get 37 = .ok (.ifCond .ne 8, 3) := by decide +kernel
theorem dX4_get_40 : decode cX4_get 40 = .ok (.iconst 2, 1) := by decide +kernel
theorem dX4_get_41 : decode cX4_get 41 = .ok (.invokestatic 73, 3) := by decide +kernel
theorem dX4_get_44 : decode cX4_get 44 = .ok (.ireturn, 1) := by decide +kernel
theorem dX4_get_45 : decode cX4_get 45 = .ok (.aload_n 0, 1) := by decide +kernel
theorem dX4_get_46 : decode cX4_get 46 = .ok (.iload_n 1, 1) := by decide +kernel
theorem dX4_get_47 : decode cX4_get 47 = .ok (.ifCond .eq 17, 3) := by decide +kernel
theorem dX4_get_50 : decode cX4_get 50 = .ok (.aload_n 0, 1) := by decide +kernel
theorem dX4_get_51 : decode cX4_get 51 = .ok (.getfield 10, 3) := by decide +kernel
theorem dX4_get_54 : decode cX4_get 54 = .ok (.aload 4, 2) := by decide +kernel
theorem dX4_get_56 : decode cX4_get 56 = .ok (.iload_n 3, 1) := by decide +kernel
theorem dX4_get_57 : decode cX4_get 57 = .ok (.daload, 1) := by decide +kernel
theorem dX4_get_58 : decode cX4_get 58 = .ok (.invokevirtual 85, 3) := by decide +kernel
theorem dX4_get_61 : decode cX4_get 61 = .ok (.goto 16, 3) := by decide +kernel
theorem dX4_get_64 : decode cX4_get 64 = .ok (.aload_n 0, 1) := by decide +kernel
theorem dX4_get_65 : decode cX4_get 65 = .ok (.getfield 10, 3) := by decide +kernel
theorem dX4_get_68 : decode cX4_get 68 = .ok (.aload 4, 2) := by decide +kernel
theorem dX4_get_70 : decode cX4_get 70 = .ok (.iload_n 3, 1) := by decide +kernel
theorem dX4_get_71 : decode cX4_get 71 = .ok (.daload, 1) := by decide +kernel
theorem dX4_get_72 : decode cX4_get 72 = .ok (.d2f, 1) := by decide +kernel
theorem dX4_get_73 : decode cX4_get 73 = .ok (.invokevirtual 89, 3) := by decide +kernel
theorem dX4_get_76 : decode cX4_get 76 = .ok (.i2l, 1) := by decide +kernel
theorem dX4_get_77 : decode cX4_get 77 = .ok (.invokevirtual 93, 3) := by decide +kernel
theorem dX4_get_80 : decode cX4_get 80 = .ok (.ireturn, 1) := by decide +kernel
theorem dX4_wrap_0 : decode cX4_wrap 0 = .ok (.iload_n 2, 1) := by decide +kernel
theorem dX4_wrap_1 : decode cX4_wrap 1 = .ok (.bipush 6, 2) := by decide +kernel
theorem dX4_wrap_3 : decode cX4_wrap 3 = .ok (.invokestatic 58, 3) := by decide +kernel
theorem dX4_wrap_6 : decode cX4_wrap 6 = .ok (.ifCond .ne 5, 3) := by decide +kernel
theorem dX4_wrap_9 : decode cX4_wrap 9 = .ok (.iconst (-1), 1) := by decide +kernel
theorem dX4_wrap_10 : decode cX4_wrap 10 = .ok (.ireturn, 1) := by decide +kernel
theorem dX4_wrap_11 : decode cX4_wrap 11 = .ok (.aload_n 0, 1) := by decide +kernel
theorem dX4_wrap_12 : decode cX4_wrap 12 = .ok (.iload_n 1, 1) := by decide +kernel
theorem dX4_wrap_13 : decode cX4_wrap 13 = .ok (.invokevirtual 62, 3) := by decide +kernel
theorem dX4_wrap_16 : decode cX4_wrap 16 = .ok (.iload_n 2, 1) := by decide +kernel
theorem dX4_wrap_17 : decode cX4_wrap 17 = .ok (.aaload, 1) := by decide +kernel
theorem dX4_wrap_18 : decode cX4_wrap 18 = .ok (.astore 5, 2) := by decide +kernel
theorem dX4_wrap_20 : decode cX4_wrap 20 = .ok (.aload 5, 2) := by decide +kernel
theorem dX4_wrap_22 : decode cX4_wrap 22 = .ok (.ifnonnull 8, 3) := by decide +kernel
theorem dX4_wrap_25 : decode cX4_wrap 25 = .ok (.iconst 1, 1) := by decide +kernel
theorem dX4_wrap_26 : decode cX4_wrap 26 = .ok (.invokestatic 73, 3) := by decide +kernel
theorem dX4_wrap_29 : decode cX4_wrap 29 = .ok (.ireturn, 1) := by decide +kernel
theorem dX4_wrap_30 : decode cX4_wrap 30 = .ok (.iload_n 3, 1) := by decide +kernel
theorem dX4_wrap_31 : decode cX4_wrap 31 = .ok (.aload 5, 2) := by decide +kernel
theorem dX4_wrap_33 : decode cX4_wrap 33 = .ok (.arraylength, 1) := by decide +kernel
theorem dX4_wrap_34 : decode cX4_wrap 34 = .ok (.invokestatic 58, 3) := by decide +kernel
theorem dX4_wrap_37 : decode cX4_wrap 37 = .ok (.ifCond .eq 14, 3) := by decide +kernel
theorem dX4_wrap_40 : decode cX4_wrap 40 = .ok (.iload 4, 2) := by decide +kernel
theorem dX4_wrap_42 : decode cX4_wrap 42 = .ok (.aload 5, 2) := by decide +kernel
theorem dX4_wrap_44 : decode cX4_wrap 44 = .ok (.arraylength, 1) := by decide +kernel
theorem dX4_wrap_45 : decode cX4_wrap 45 = .ok (.invokestatic 58, 3) := by decide +kernel
theorem dX4_wrap_48 : decode cX4_wrap 48 = .ok (.ifCond .ne 8, 3) := by decide +kernel
theorem dX4_wrap_51 : decode cX4_wrap 51 = .ok (.iconst 2, 1) := by decide +kernel
theorem dX4_wrap_52 : decode cX4_wrap 52 = .ok (.invokestatic 73, 3) := by decide +kernel
theorem dX4_wrap_55 : decode cX4_wrap 55 = .ok (.ireturn, 1) := by decide +kernel
theorem dX4_wrap_56 : decode cX4_wrap 56 = .ok (.aload 5, 2) := by decide +kernel
theorem dX4_wrap_58 : decode cX4_wrap 58 = .ok (.iload 4, 2) := by decide +kernel
theorem dX4_wrap_60 : decode cX4_wrap 60 = .ok (.daload, 1) := by decide +kernel
theorem dX4_wrap_61 : decode cX4_wrap 61 = .ok (.dconst 0, 1) := by decide +kernel
theorem dX4_wrap_62 : decode cX4_wrap 62 = .ok (.dcmp .l, 1) := by decide +kernel
theorem dX4_wrap_63 : decode cX4_wrap 63 = .ok (.ifCond .ne 8, 3) := by decide +kernel
theorem dX4_wrap_66 : decode cX4_wrap 66 = .ok (.iconst 5, 1) := by decide +kernel
theorem dX4_wrap_67 : decode cX4_wrap 67 = .ok (.invokestatic 73, 3) := by decide +kernel
theorem dX4_wrap_70 : decode cX4_wrap 70 = .ok (.ireturn, 1) := by decide +kernel
theorem dX4_wrap_71 : decode cX4_wrap 71 = .ok (.aload 5, 2) := by decide +kernel
theorem dX4_wrap_73 : decode cX4_wrap 73 = .ok (.iload_n 3, 1) := by decide +kernel
theorem dX4_wrap_74 : decode cX4_wrap 74 = .ok (.aload 5, 2) := by decide +kernel
theorem dX4_wrap_76 : decode cX4_wrap 76 = .ok (.iload_n 3, 1) := by decide +kernel
theorem dX4_wrap_77 : decode cX4_wrap 77 = .ok (.daload, 1) := by decide +kernel
theorem dX4_wrap_78 : decode cX4_wrap 78 = .ok (.aload 5, 2) := by decide +kernel
theorem dX4_wrap_80 : decode cX4_wrap 80 = .ok (.iload 4, 2) := by decide +kernel
theorem dX4_wrap_82 : decode cX4_wrap 82 = .ok (.daload, 1) := by decide +kernel
theorem dX4_wrap_83 : decode cX4_wrap 83 = .ok (.invokestatic 97, 3) := by decide +kernel
theorem dX4_wrap_86 : decode cX4_wrap 86 = .ok (.dastore, 1) := by decide +kernel
theorem dX4_wrap_87 : decode cX4_wrap 87 = .ok (.iconst 1, 1) := by decide +kernel
theorem dX4_wrap_88 : decode cX4_wrap 88 = .ok (.ireturn, 1) := by decide +kernel
theorem dX4_effect_0 : decode cX4_effect 0 = .ok (.iload_n 1, 1) := by decide +kernel
theorem dX4_effect_1 : decode cX4_effect 1 = .ok (.bipush 6, 2) := by decide +kernel
theorem dX4_effect_3 : decode cX4_effect 3 = .ok (.invokestatic 58, 3) := by decide +kernel
theorem dX4_effect_6 : decode cX4_effect 6 = .ok (.ifCond .eq 18, 3) := by decide +kernel
theorem dX4_effect_9 : decode cX4_effect 9 = .ok (.iload_n 2, 1) := by decide +kernel
theorem dX4_effect_10 : decode cX4_effect 10 = .ok (.iconst 3, 1) := by decide +kernel
theorem dX4_effect_11 : decode cX4_effect 11 = .ok (.invokestatic 58, 3) := by decide +kernel
theorem dX4_effect_14 : decode cX4_effect 14 = .ok (.ifCond .eq 10, 3) := by decide +kernel
theorem dX4_effect_17 : decode cX4_effect 17 = .ok (.lload_n 3, 1) := by decide +kernel
theorem dX4_effect_18 : decode cX4_effect 18 = .ok (.invokestatic 66, 3) := by decide +kernel
theorem dX4_effect_21 : decode cX4_effect 21 = .ok (.ifCond .ne 5, 3) := by decide +kernel
theorem dX4_effect_24 : decode cX4_effect 24 = .ok (.iconst (-1), 1) := by decide +kernel
theorem dX4_effect_25 : decode cX4_effect 25 = .ok (.ireturn, 1) := by decide +kernel
theorem dX4_effect_26 : decode cX4_effect 26 = .ok (.aload_n 0, 1) := by decide +kernel
theorem dX4_effect_27 : decode cX4_effect 27 = .ok (.getfield 10, 3) := by decide +kernel
theorem dX4_effect_30 : decode cX4_effect 30 = .ok (.lload_n 3, 1) := by decide +kernel
theorem dX4_effect_31 : decode cX4_effect 31 = .ok (.invokevirtual 77, 3) := by decide +kernel
theorem dX4_effect_34 : decode cX4_effect 34 = .ok (.dstore 5, 2) := by decide +kernel
theorem dX4_effect_36 : decode cX4_effect 36 = .ok (.dload 5, 2) := by decide +kernel
theorem dX4_effect_38 : decode cX4_effect 38 = .ok (.ldc 101, 2) := by decide +kernel
theorem dX4_effect_40 : decode cX4_effect 40 = .ok (.invokestatic 102, 3) := by decide +kernel
theorem dX4_effect_43 : decode cX4_effect 43 = .ok (.ifCond .ne 5, 3) := by decide +kernel
theorem dX4_effect_46 : decode cX4_effect 46 = .ok (.iconst (-1), 1) := by decide +kernel
theorem dX4_effect_47 : decode cX4_effect 47 = .ok (.ireturn, 1) := by decide +kernel
theorem dX4_effect_48 : decode cX4_effect 48 = .ok (.aload_n 0, 1) := by decide +kernel
theorem dX4_effect_49 : decode cX4_effect 49 = .ok (.getfield 27, 3) := by decide +kernel
theorem dX4_effect_52 : decode cX4_effect 52 = .ok (.iload_n 1, 1) := by decide +kernel
theorem dX4_effect_53 : decode cX4_effect 53 = .ok (.new 25, 3) := by decide +kernel
theorem dX4_effect_56 : decode cX4_effect 56 = .ok (.dup, 1) := by decide +kernel
theorem dX4_effect_57 : decode cX4_effect 57 = .ok (.iload_n 2, 1) := by decide +kernel
theorem dX4_effect_58 : decode cX4_effect 58 = .ok (.dload 5, 2) := by decide +kernel
theorem dX4_effect_60 : decode cX4_effect 60 = .ok (.invokespecial 106, 3) := by decide +kernel
theorem dX4_effect_63 : decode cX4_effect 63 = .ok (.aastore, 1) := by decide +kernel
theorem dX4_effect_64 : decode cX4_effect 64 = .ok (.iconst 1, 1) := by decide +kernel
theorem dX4_effect_65 : decode cX4_effect 65 = .ok (.ireturn, 1) := by decide +kernel
theorem dX4_make_0 : decode cX4_make 0 = .ok (.iload_n 1, 1) := by decide +kernel
theorem dX4_make_1 : decode cX4_make 1 = .ok (.bipush 6, 2) := by decide +kernel
theorem dX4_make_3 : decode cX4_make 3 = .ok (.invokestatic 58, 3) := by decide +kernel
theorem dX4_make_6 : decode cX4_make 6 = .ok (.ifCond .eq 10, 3) := by decide +kernel
theorem dX4_make_9 : decode cX4_make 9 = .ok (.lload_n 2, 1) := by decide +kernel
theorem dX4_make_10 : decode cX4_make 10 = .ok (.invokestatic 70, 3) := by decide +kernel
theorem dX4_make_13 : decode cX4_make 13 = .ok (.ifCond .ne 5, 3) := by decide +kernel
theorem dX4_make_16 : decode cX4_make 16 = .ok (.iconst (-1), 1) := by decide +kernel
theorem dX4_make_17 : decode cX4_make 17 = .ok (.ireturn, 1) := by decide +kernel
theorem dX4_make_18 : decode cX4_make 18 = .ok (.aload_n 0, 1) := by decide +kernel
theorem dX4_make_19 : decode cX4_make 19 = .ok (.getfield 27, 3) := by decide +kernel
theorem dX4_make_22 : decode cX4_make 22 = .ok (.iload_n 1, 1) := by decide +kernel
theorem dX4_make_23 : decode cX4_make 23 = .ok (.aaload, 1) := by decide +kernel
theorem dX4_make_24 : decode cX4_make 24 = .ok (.astore 4, 2) := by decide +kernel
theorem dX4_make_26 : decode cX4_make 26 = .ok (.aload 4, 2) := by decide +kernel
theorem dX4_make_28 : decode cX4_make 28 = .ok (.ifnonnull 8, 3) := by decide +kernel
theorem dX4_make_31 : decode cX4_make 31 = .ok (.iconst 1, 1) := by decide +kernel
theorem dX4_make_32 : decode cX4_make 32 = .ok (.invokestatic 73, 3) := by decide +kernel
theorem dX4_make_35 : decode cX4_make 35 = .ok (.ireturn, 1) := by decide +kernel
theorem dX4_make_36 : decode cX4_make 36 = .ok (.aload 4, 2) := by decide +kernel
theorem dX4_make_38 : decode cX4_make 38 = .ok (.aload_n 0, 1) := by decide +kernel
theorem dX4_make_39 : decode cX4_make 39 = .ok (.getfield 10, 3) := by decide +kernel
theorem dX4_make_42 : decode cX4_make 42 = .ok (.lload_n 2, 1) := by decide +kernel
theorem dX4_make_43 : decode cX4_make 43 = .ok (.invokevirtual 81, 3) := by decide +kernel
theorem dX4_make_46 : decode cX4_make 46 = .ok (.f2d, 1) := by decide +kernel
theorem dX4_make_47 : decode cX4_make 47 = .ok (.invokevirtual 109, 3) := by decide +kernel
theorem dX4_make_50 : decode cX4_make 50 = .ok (.fstore 5, 2) := by decide +kernel
theorem dX4_make_52 : decode cX4_make 52 = .ok (.aload_n 0, 1) := by decide +kernel
theorem dX4_make_53 : decode cX4_make 53 = .ok (.aload_n 0, 1) := by decide +kernel
theorem dX4_make_54 : decode cX4_make 54 = .ok (.getfield 10, 3) := by decide +kernel
theorem dX4_make_57 : decode cX4_make 57 = .ok (.fload 5, 2) := by decide +kernel
theorem dX4_make_59 : decode cX4_make 59 = .ok (.invokevirtual 89, 3) := by decide +kernel
theorem dX4_make_62 : decode cX4_make 62 = .ok (.i2l, 1) := by decide +kernel
theorem dX4_make_63 : decode cX4_make 63 = .ok (.invokevirtual 93, 3) := by decide +kernel
theorem dX4_make_66 : decode cX4_make 66 = .ok (.ireturn, 1) := by decide +kernel
theorem dX4_rack_0 : decode cX4_rack 0 = .ok (.iload_n 1, 1) := by decide +kernel
theorem dX4_rack_1 : decode cX4_rack 1 = .ok (.iconst 3, 1) := by decide +kernel
theorem dX4_rack_2 : decode cX4_rack 2 = .ok (.invokestatic 58, 3) := by decide +kernel
theorem dX4_rack_5 : decode cX4_rack 5 = .ok (.ifCond .eq 11, 3) := by decide +kernel
theorem dX4_rack_8 : decode cX4_rack 8 = .ok (.iload_n 2, 1) := by decide +kernel
theorem dX4_rack_9 : decode cX4_rack 9 = .ok (.iconst 3, 1) := by decide +kernel
theorem dX4_rack_10 : decode cX4_rack 10 = .ok (.invokestatic 58, 3) := by decide +kernel
theorem dX4_rack_13 : decode cX4_rack 13 = .ok (.ifCond .ne 5, 3) := by decide +kernel
theorem dX4_rack_16 : decode cX4_rack 16 = .ok (.iconst (-1), 1) := by decide +kernel
theorem dX4_rack_17 : decode cX4_rack 17 = .ok (.ireturn, 1) := by decide +kernel
theorem dX4_rack_18 : decode cX4_rack 18 = .ok (.aload_n 0, 1) := by decide +kernel
theorem dX4_rack_19 : decode cX4_rack 19 = .ok (.getfield 33, 3) := by decide +kernel
theorem dX4_rack_22 : decode cX4_rack 22 = .ok (.iload_n 1, 1) := by decide +kernel
theorem dX4_rack_23 : decode cX4_rack 23 = .ok (.new 31, 3) := by decide +kernel
theorem dX4_rack_26 : decode cX4_rack 26 = .ok (.dup, 1) := by decide +kernel
theorem dX4_rack_27 : decode cX4_rack 27 = .ok (.iload_n 2, 1) := by decide +kernel
theorem dX4_rack_28 : decode cX4_rack 28 = .ok (.invokespecial 113, 3) := by decide +kernel
theorem dX4_rack_31 : decode cX4_rack 31 = .ok (.aastore, 1) := by decide +kernel
theorem dX4_rack_32 : decode cX4_rack 32 = .ok (.iconst 1, 1) := by decide +kernel
theorem dX4_rack_33 : decode cX4_rack 33 = .ok (.ireturn, 1) := by decide +kernel
theorem dX4_hang_0 : decode cX4_hang 0 = .ok (.iload_n 1, 1) := by decide +kernel
theorem dX4_hang_1 : decode cX4_hang 1 = .ok (.iconst 3, 1) := by decide +kernel
theorem dX4_hang_2 : decode cX4_hang 2 = .ok (.invokestatic 58, 3) := by decide +kernel
theorem dX4_hang_5 : decode cX4_hang 5 = .ok (.ifCond .eq 12, 3) := by decide +kernel
theorem dX4_hang_8 : decode cX4_hang 8 = .ok (.iload_n 3, 1) := by decide +kernel
theorem dX4_hang_9 : decode cX4_hang 9 = .ok (.bipush 6, 2) := by decide +kernel
theorem dX4_hang_11 : decode cX4_hang 11 = .ok (.invokestatic 58, 3) := by decide +kernel
theorem dX4_hang_14 : decode cX4_hang 14 = .ok (.ifCond .ne 5, 3) := by decide +kernel
theorem dX4_hang_17 : decode cX4_hang 17 = .ok (.iconst (-1), 1) := by decide +kernel
theorem dX4_hang_18 : decode cX4_hang 18 = .ok (.ireturn, 1) := by decide +kernel
theorem dX4_hang_19 : decode cX4_hang 19 = .ok (.aload_n 0, 1) := by decide +kernel
theorem dX4_hang_20 : decode cX4_hang 20 = .ok (.getfield 33, 3) := by decide +kernel
theorem dX4_hang_23 : decode cX4_hang 23 = .ok (.iload_n 1, 1) := by decide +kernel
theorem dX4_hang_24 : decode cX4_hang 24 = .ok (.aaload, 1) := by decide +kernel
theorem dX4_hang_25 : decode cX4_hang 25 = .ok (.astore 4, 2) := by decide +kernel
theorem dX4_hang_27 : decode cX4_hang 27 = .ok (.aload 4, 2) := by decide +kernel
theorem dX4_hang_29 : decode cX4_hang 29 = .ok (.ifnonnull 8, 3) := by decide +kernel
theorem dX4_hang_32 : decode cX4_hang 32 = .ok (.iconst 1, 1) := by decide +kernel
theorem dX4_hang_33 : decode cX4_hang 33 = .ok (.invokestatic 73, 3) := by decide +kernel
theorem dX4_hang_36 : decode cX4_hang 36 = .ok (.ireturn, 1) := by decide +kernel
theorem dX4_hang_37 : decode cX4_hang 37 = .ok (.iload_n 2, 1) := by decide +kernel
theorem dX4_hang_38 : decode cX4_hang 38 = .ok (.iconst 3, 1) := by decide +kernel
theorem dX4_hang_39 : decode cX4_hang 39 = .ok (.invokestatic 58, 3) := by decide +kernel
theorem dX4_hang_42 : decode cX4_hang 42 = .ok (.ifCond .ne 8, 3) := by decide +kernel
theorem dX4_hang_45 : decode cX4_hang 45 = .ok (.iconst 2, 1) := by decide +kernel
theorem dX4_hang_46 : decode cX4_hang 46 = .ok (.invokestatic 73, 3) := by decide +kernel
theorem dX4_hang_49 : decode cX4_hang 49 = .ok (.ireturn, 1) := by decide +kernel
theorem dX4_hang_50 : decode cX4_hang 50 = .ok (.aload_n 0, 1) := by decide +kernel
theorem dX4_hang_51 : decode cX4_hang 51 = .ok (.getfield 27, 3) := by decide +kernel
theorem dX4_hang_54 : decode cX4_hang 54 = .ok (.iload_n 3, 1) := by decide +kernel
theorem dX4_hang_55 : decode cX4_hang 55 = .ok (.aaload, 1) := by decide +kernel
theorem dX4_hang_56 : decode cX4_hang 56 = .ok (.astore 5, 2) := by decide +kernel
theorem dX4_hang_58 : decode cX4_hang 58 = .ok (.aload 5, 2) := by decide +kernel
theorem dX4_hang_60 : decode cX4_hang 60 = .ok (.ifnull 21, 3) := by decide +kernel
theorem dX4_hang_63 : decode cX4_hang 63 = .ok (.aload 5, 2) := by decide +kernel
theorem dX4_hang_65 : decode cX4_hang 65 = .ok (.aload 4, 2) := by decide +kernel
theorem dX4_hang_67 : decode cX4_hang 67 = .ok (.getfield 116, 3) := by decide +kernel
theorem dX4_hang_70 : decode cX4_hang 70 = .ok (.invokevirtual 119, 3) := by decide +kernel
theorem dX4_hang_73 : decode cX4_hang 73 = .ok (.ifCond .ne 8, 3) := by decide +kernel
theorem dX4_hang_76 : decode cX4_hang 76 = .ok (.iconst 4, 1) := by decide +kernel
theorem dX4_hang_77 : decode cX4_hang 77 = .ok (.invokestatic 73, 3) := by decide +kernel
theorem dX4_hang_80 : decode cX4_hang 80 = .ok (.ireturn, 1) := by decide +kernel
theorem dX4_hang_81 : decode cX4_hang 81 = .ok (.aload 4, 2) := by decide +kernel
theorem dX4_hang_83 : decode cX4_hang 83 = .ok (.getfield 123, 3) := by decide +kernel
theorem dX4_hang_86 : decode cX4_hang 86 = .ok (.iload_n 2, 1) := by decide +kernel
theorem dX4_hang_87 : decode cX4_hang 87 = .ok (.aload 5, 2) := by decide +kernel
theorem dX4_hang_89 : decode cX4_hang 89 = .ok (.aastore, 1) := by decide +kernel
theorem dX4_hang_90 : decode cX4_hang 90 = .ok (.iconst 1, 1) := by decide +kernel
theorem dX4_hang_91 : decode cX4_hang 91 = .ok (.ireturn, 1) := by decide +kernel
theorem dX4_take_0 : decode cX4_take 0 = .ok (.iload_n 1, 1) := by decide +kernel
theorem dX4_take_1 : decode cX4_take 1 = .ok (.iconst 3, 1) := by decide +kernel
theorem dX4_take_2 : decode cX4_take 2 = .ok (.invokestatic 58, 3) := by decide +kernel
theorem dX4_take_5 : decode cX4_take 5 = .ok (.ifCond .eq 21, 3) := by decide +kernel
theorem dX4_take_8 : decode cX4_take 8 = .ok (.iload_n 3, 1) := by decide +kernel
theorem dX4_take_9 : decode cX4_take 9 = .ok (.iconst 3, 1) := by decide +kernel
theorem dX4_take_10 : decode cX4_take 10 = .ok (.invokestatic 58, 3) := by decide +kernel
theorem dX4_take_13 : decode cX4_take 13 = .ok (.ifCond .eq 13, 3) := by decide +kernel
theorem dX4_take_16 : decode cX4_take 16 = .ok (.iload 4, 2) := by decide +kernel
theorem dX4_take_18 : decode cX4_take 18 = .ok (.bipush 6, 2) := by decide +kernel
theorem dX4_take_20 : decode cX4_take 20 = .ok (.invokestatic 58, 3) := by decide +kernel
theorem dX4_take_23 : decode cX4_take 23 = .ok (.ifCond .ne 5, 3) := by decide +kernel
