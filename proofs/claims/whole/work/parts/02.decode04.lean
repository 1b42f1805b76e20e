theorem dX4_take_26 : decode cX4_take 26 = .ok (.iconst (-1), 1) := by decide +kernel
theorem dX4_take_27 : decode cX4_take 27 = .ok (.ireturn, 1) := by decide +kernel
theorem dX4_take_28 : decode cX4_take 28 = .ok (.aload_n 0, 1) := by decide +kernel
theorem dX4_take_29 : decode cX4_take 29 = .ok (.getfield 33, 3) := by decide +kernel
theorem dX4_take_32 : decode cX4_take 32 = .ok (.iload_n 1, 1) := by decide +kernel
theorem dX4_take_33 : decode cX4_take 33 = .ok (.aaload, 1) := by decide +kernel
theorem dX4_take_34 : decode cX4_take 34 = .ok (.astore 5, 2) := by decide +kernel
theorem dX4_take_36 : decode cX4_take 36 = .ok (.aload 5, 2) := by decide +kernel
theorem dX4_take_38 : decode cX4_take 38 = .ok (.ifnonnull 8, 3) := by decide +kernel
theorem dX4_take_41 : decode cX4_take 41 = .ok (.iconst 1, 1) := by decide +kernel
theorem dX4_take_42 : decode cX4_take 42 = .ok (.invokestatic 73, 3) := by decide +kernel
theorem dX4_take_45 : decode cX4_take 45 = .ok (.ireturn, 1) := by decide +kernel
theorem dX4_take_46 : decode cX4_take 46 = .ok (.iload_n 2, 1) := by decide +kernel
theorem dX4_take_47 : decode cX4_take 47 = .ok (.iconst 3, 1) := by decide +kernel
theorem dX4_take_48 : decode cX4_take 48 = .ok (.invokestatic 58, 3) := by decide +kernel
theorem dX4_take_51 : decode cX4_take 51 = .ok (.ifCond .ne 8, 3) := by decide +kernel
theorem dX4_take_54 : decode cX4_take 54 = .ok (.iconst 2, 1) := by decide +kernel
theorem dX4_take_55 : decode cX4_take 55 = .ok (.invokestatic 73, 3) := by decide +kernel
theorem dX4_take_58 : decode cX4_take 58 = .ok (.ireturn, 1) := by decide +kernel
theorem dX4_take_59 : decode cX4_take 59 = .ok (.aload 5, 2) := by decide +kernel
theorem dX4_take_61 : decode cX4_take 61 = .ok (.getfield 123, 3) := by decide +kernel
theorem dX4_take_64 : decode cX4_take 64 = .ok (.iload_n 2, 1) := by decide +kernel
theorem dX4_take_65 : decode cX4_take 65 = .ok (.aaload, 1) := by decide +kernel
theorem dX4_take_66 : decode cX4_take 66 = .ok (.astore 6, 2) := by decide +kernel
theorem dX4_take_68 : decode cX4_take 68 = .ok (.aload 6, 2) := by decide +kernel
theorem dX4_take_70 : decode cX4_take 70 = .ok (.ifnull 17, 3) := by decide +kernel
theorem dX4_take_73 : decode cX4_take 73 = .ok (.aload 6, 2) := by decide +kernel
theorem dX4_take_75 : decode cX4_take 75 = .ok (.iload_n 3, 1) := by decide +kernel
theorem dX4_take_76 : decode cX4_take 76 = .ok (.invokevirtual 119, 3) := by decide +kernel
theorem dX4_take_79 : decode cX4_take 79 = .ok (.ifCond .ne 8, 3) := by decide +kernel
theorem dX4_take_82 : decode cX4_take 82 = .ok (.iconst 3, 1) := by decide +kernel
theorem dX4_take_83 : decode cX4_take 83 = .ok (.invokestatic 73, 3) := by decide +kernel
theorem dX4_take_86 : decode cX4_take 86 = .ok (.ireturn, 1) := by decide +kernel
theorem dX4_take_87 : decode cX4_take 87 = .ok (.aload_n 0, 1) := by decide +kernel
theorem dX4_take_88 : decode cX4_take 88 = .ok (.getfield 27, 3) := by decide +kernel
theorem dX4_take_91 : decode cX4_take 91 = .ok (.iload 4, 2) := by decide +kernel
theorem dX4_take_93 : decode cX4_take 93 = .ok (.aload 6, 2) := by decide +kernel
theorem dX4_take_95 : decode cX4_take 95 = .ok (.aastore, 1) := by decide +kernel
theorem dX4_take_96 : decode cX4_take 96 = .ok (.aload 6, 2) := by decide +kernel
theorem dX4_take_98 : decode cX4_take 98 = .ok (.ifnull 7, 3) := by decide +kernel
theorem dX4_take_101 : decode cX4_take 101 = .ok (.iconst 1, 1) := by decide +kernel
theorem dX4_take_102 : decode cX4_take 102 = .ok (.goto 4, 3) := by decide +kernel
theorem dX4_take_105 : decode cX4_take 105 = .ok (.iconst 0, 1) := by decide +kernel
theorem dX4_take_106 : decode cX4_take 106 = .ok (.ireturn, 1) := by decide +kernel
theorem dX4_head_0 : decode cX4_head 0 = .ok (.iload_n 1, 1) := by decide +kernel
theorem dX4_head_1 : decode cX4_head 1 = .ok (.iconst 4, 1) := by decide +kernel
theorem dX4_head_2 : decode cX4_head 2 = .ok (.invokestatic 58, 3) := by decide +kernel
theorem dX4_head_5 : decode cX4_head 5 = .ok (.ifCond .eq 20, 3) := by decide +kernel
theorem dX4_head_8 : decode cX4_head 8 = .ok (.iload_n 2, 1) := by decide +kernel
theorem dX4_head_9 : decode cX4_head 9 = .ok (.bipush 6, 2) := by decide +kernel
theorem dX4_head_11 : decode cX4_head 11 = .ok (.invokestatic 58, 3) := by decide +kernel
theorem dX4_head_14 : decode cX4_head 14 = .ok (.ifCond .eq 11, 3) := by decide +kernel
theorem dX4_head_17 : decode cX4_head 17 = .ok (.lload 5, 2) := by decide +kernel
theorem dX4_head_19 : decode cX4_head 19 = .ok (.invokestatic 66, 3) := by decide +kernel
theorem dX4_head_22 : decode cX4_head 22 = .ok (.ifCond .ne 5, 3) := by decide +kernel
theorem dX4_head_25 : decode cX4_head 25 = .ok (.iconst (-1), 1) := by decide +kernel
theorem dX4_head_26 : decode cX4_head 26 = .ok (.ireturn, 1) := by decide +kernel
theorem dX4_head_27 : decode cX4_head 27 = .ok (.iload_n 3, 1) := by decide +kernel
theorem dX4_head_28 : decode cX4_head 28 = .ok (.bipush 6, 2) := by decide +kernel
theorem dX4_head_30 : decode cX4_head 30 = .ok (.invokestatic 126, 3) := by decide +kernel
theorem dX4_head_33 : decode cX4_head 33 = .ok (.ifCond .eq 12, 3) := by decide +kernel
theorem dX4_head_36 : decode cX4_head 36 = .ok (.iload 4, 2) := by decide +kernel
theorem dX4_head_38 : decode cX4_head 38 = .ok (.iconst 3, 1) := by decide +kernel
theorem dX4_head_39 : decode cX4_head 39 = .ok (.invokestatic 126, 3) := by decide +kernel
theorem dX4_head_42 : decode cX4_head 42 = .ok (.ifCond .ne 5, 3) := by decide +kernel
theorem dX4_head_45 : decode cX4_head 45 = .ok (.iconst (-1), 1) := by decide +kernel
theorem dX4_head_46 : decode cX4_head 46 = .ok (.ireturn, 1) := by decide +kernel
theorem dX4_head_47 : decode cX4_head 47 = .ok (.aload_n 0, 1) := by decide +kernel
theorem dX4_head_48 : decode cX4_head 48 = .ok (.getfield 10, 3) := by decide +kernel
theorem dX4_head_51 : decode cX4_head 51 = .ok (.lload 5, 2) := by decide +kernel
theorem dX4_head_53 : decode cX4_head 53 = .ok (.invokevirtual 77, 3) := by decide +kernel
theorem dX4_head_56 : decode cX4_head 56 = .ok (.dstore 7, 2) := by decide +kernel
theorem dX4_head_58 : decode cX4_head 58 = .ok (.dload 7, 2) := by decide +kernel
theorem dX4_head_60 : decode cX4_head 60 = .ok (.bipush 64, 2) := by decide +kernel
theorem dX4_head_62 : decode cX4_head 62 = .ok (.invokestatic 102, 3) := by decide +kernel
theorem dX4_head_65 : decode cX4_head 65 = .ok (.ifCond .ne 5, 3) := by decide +kernel
theorem dX4_head_68 : decode cX4_head 68 = .ok (.iconst (-1), 1) := by decide +kernel
theorem dX4_head_69 : decode cX4_head 69 = .ok (.ireturn, 1) := by decide +kernel
theorem dX4_head_70 : decode cX4_head 70 = .ok (.aload_n 0, 1) := by decide +kernel
theorem dX4_head_71 : decode cX4_head 71 = .ok (.getfield 39, 3) := by decide +kernel
theorem dX4_head_74 : decode cX4_head 74 = .ok (.iload_n 1, 1) := by decide +kernel
theorem dX4_head_75 : decode cX4_head 75 = .ok (.new 37, 3) := by decide +kernel
theorem dX4_head_78 : decode cX4_head 78 = .ok (.dup, 1) := by decide +kernel
theorem dX4_head_79 : decode cX4_head 79 = .ok (.iload_n 2, 1) := by decide +kernel
theorem dX4_head_80 : decode cX4_head 80 = .ok (.iload_n 3, 1) := by decide +kernel
theorem dX4_head_81 : decode cX4_head 81 = .ok (.iload 4, 2) := by decide +kernel
theorem dX4_head_83 : decode cX4_head 83 = .ok (.dload 7, 2) := by decide +kernel
theorem dX4_head_85 : decode cX4_head 85 = .ok (.invokespecial 129, 3) := by decide +kernel
theorem dX4_head_88 : decode cX4_head 88 = .ok (.aastore, 1) := by decide +kernel
theorem dX4_head_89 : decode cX4_head 89 = .ok (.iconst 1, 1) := by decide +kernel
theorem dX4_head_90 : decode cX4_head 90 = .ok (.ireturn, 1) := by decide +kernel
theorem dX4_play_0 : decode cX4_play 0 = .ok (.aload_n 0, 1) := by decide +kernel
theorem dX4_play_1 : decode cX4_play 1 = .ok (.iload_n 1, 1) := by decide +kernel
theorem dX4_play_2 : decode cX4_play 2 = .ok (.invokevirtual 132, 3) := by decide +kernel
theorem dX4_play_5 : decode cX4_play 5 = .ok (.ifCond .eq 12, 3) := by decide +kernel
theorem dX4_play_8 : decode cX4_play 8 = .ok (.iload_n 2, 1) := by decide +kernel
theorem dX4_play_9 : decode cX4_play 9 = .ok (.bipush 65, 2) := by decide +kernel
theorem dX4_play_11 : decode cX4_play 11 = .ok (.invokestatic 58, 3) := by decide +kernel
theorem dX4_play_14 : decode cX4_play 14 = .ok (.ifCond .ne 5, 3) := by decide +kernel
theorem dX4_play_17 : decode cX4_play 17 = .ok (.iconst (-1), 1) := by decide +kernel
theorem dX4_play_18 : decode cX4_play 18 = .ok (.ireturn, 1) := by decide +kernel
theorem dX4_play_19 : decode cX4_play 19 = .ok (.aload_n 0, 1) := by decide +kernel
theorem dX4_play_20 : decode cX4_play 20 = .ok (.iconst 0, 1) := by decide +kernel
theorem dX4_play_21 : decode cX4_play 21 = .ok (.putfield 47, 3) := by decide +kernel
theorem dX4_play_24 : decode cX4_play 24 = .ok (.iconst 0, 1) := by decide +kernel
theorem dX4_play_25 : decode cX4_play 25 = .ok (.istore_n 3, 1) := by decide +kernel
theorem dX4_play_26 : decode cX4_play 26 = .ok (.iload_n 3, 1) := by decide +kernel
theorem dX4_play_27 : decode cX4_play 27 = .ok (.iload_n 2, 1) := by decide +kernel
theorem dX4_play_28 : decode cX4_play 28 = .ok (.if_icmp .ge 32, 3) := by decide +kernel
theorem dX4_play_31 : decode cX4_play 31 = .ok (.aload_n 0, 1) := by decide +kernel
theorem dX4_play_32 : decode cX4_play 32 = .ok (.aload_n 0, 1) := by decide +kernel
theorem dX4_play_33 : decode cX4_play 33 = .ok (.aload_n 0, 1) := by decide +kernel
theorem dX4_play_34 : decode cX4_play 34 = .ok (.getfield 39, 3) := by decide +kernel
theorem dX4_play_37 : decode cX4_play 37 = .ok (.iload_n 1, 1) := by decide +kernel
theorem dX4_play_38 : decode cX4_play 38 = .ok (.aaload, 1) := by decide +kernel
theorem dX4_play_39 : decode cX4_play 39 = .ok (.invokevirtual 135, 3) := by decide +kernel
theorem dX4_play_42 : decode cX4_play 42 = .ok (.putfield 47, 3) := by decide +kernel
theorem dX4_play_45 : decode cX4_play 45 = .ok (.aload_n 0, 1) := by decide +kernel
theorem dX4_play_46 : decode cX4_play 46 = .ok (.getfield 47, 3) := by decide +kernel
theorem dX4_play_49 : decode cX4_play 49 = .ok (.ifCond .eq 5, 3) := by decide +kernel
theorem dX4_play_52 : decode cX4_play 52 = .ok (.iload_n 3, 1) := by decide +kernel
theorem dX4_play_53 : decode cX4_play 53 = .ok (.ireturn, 1) := by decide +kernel
theorem dX4_play_54 : decode cX4_play 54 = .ok (.iinc 3 1, 3) := by decide +kernel
theorem dX4_play_57 : decode cX4_play 57 = .ok (.goto (-31), 3) := by decide +kernel
theorem dX4_play_60 : decode cX4_play 60 = .ok (.iload_n 2, 1) := by decide +kernel
theorem dX4_play_61 : decode cX4_play 61 = .ok (.ireturn, 1) := by decide +kernel
theorem dX4_failed_0 : decode cX4_failed 0 = .ok (.aload_n 0, 1) := by decide +kernel
theorem dX4_failed_1 : decode cX4_failed 1 = .ok (.getfield 47, 3) := by decide +kernel
theorem dX4_failed_4 : decode cX4_failed 4 = .ok (.ifCond .ne 7, 3) := by decide +kernel
theorem dX4_failed_7 : decode cX4_failed 7 = .ok (.iconst 0, 1) := by decide +kernel
theorem dX4_failed_8 : decode cX4_failed 8 = .ok (.goto 10, 3) := by decide +kernel
theorem dX4_failed_11 : decode cX4_failed 11 = .ok (.aload_n 0, 1) := by decide +kernel
theorem dX4_failed_12 : decode cX4_failed 12 = .ok (.getfield 47, 3) := by decide +kernel
theorem dX4_failed_15 : decode cX4_failed 15 = .ok (.invokestatic 73, 3) := by decide +kernel
theorem dX4_failed_18 : decode cX4_failed 18 = .ok (.ireturn, 1) := by decide +kernel
theorem dX4_mix_0 : decode cX4_mix 0 = .ok (.iload_n 1, 1) := by decide +kernel
theorem dX4_mix_1 : decode cX4_mix 1 = .ok (.bipush 8, 2) := by decide +kernel
theorem dX4_mix_3 : decode cX4_mix 3 = .ok (.invokestatic 58, 3) := by decide +kernel
theorem dX4_mix_6 : decode cX4_mix 6 = .ok (.ifCond .eq 11, 3) := by decide +kernel
theorem dX4_mix_9 : decode cX4_mix 9 = .ok (.iload_n 2, 1) := by decide +kernel
theorem dX4_mix_10 : decode cX4_mix 10 = .ok (.iconst 4, 1) := by decide +kernel
theorem dX4_mix_11 : decode cX4_mix 11 = .ok (.invokestatic 58, 3) := by decide +kernel
theorem dX4_mix_14 : decode cX4_mix 14 = .ok (.ifCond .ne 5, 3) := by decide +kernel
theorem dX4_mix_17 : decode cX4_mix 17 = .ok (.iconst (-1), 1) := by decide +kernel
theorem dX4_mix_18 : decode cX4_mix 18 = .ok (.ireturn, 1) := by decide +kernel
theorem dX4_mix_19 : decode cX4_mix 19 = .ok (.aload_n 0, 1) := by decide +kernel
theorem dX4_mix_20 : decode cX4_mix 20 = .ok (.getfield 43, 3) := by decide +kernel
theorem dX4_mix_23 : decode cX4_mix 23 = .ok (.iload_n 1, 1) := by decide +kernel
theorem dX4_mix_24 : decode cX4_mix 24 = .ok (.faload, 1) := by decide +kernel
theorem dX4_mix_25 : decode cX4_mix 25 = .ok (.fstore_n 3, 1) := by decide +kernel
theorem dX4_mix_26 : decode cX4_mix 26 = .ok (.fload_n 3, 1) := by decide +kernel
theorem dX4_mix_27 : decode cX4_mix 27 = .ok (.f2d, 1) := by decide +kernel
theorem dX4_mix_28 : decode cX4_mix 28 = .ok (.ldc2_w 139, 3) := by decide +kernel
theorem dX4_mix_31 : decode cX4_mix 31 = .ok (.dmul, 1) := by decide +kernel
theorem dX4_mix_32 : decode cX4_mix 32 = .ok (.d2i, 1) := by decide +kernel
theorem dX4_mix_33 : decode cX4_mix 33 = .ok (.istore 4, 2) := by decide +kernel
theorem dX4_mix_35 : decode cX4_mix 35 = .ok (.iload_n 2, 1) := by decide +kernel
theorem dX4_mix_36 : decode cX4_mix 36 = .ok (.tableswitch 59 0 2 #[28, 42, 50], 28) := by decide +kernel
theorem dX4_mix_64 : decode cX4_mix 64 = .ok (.aload_n 0, 1) := by decide +kernel
theorem dX4_mix_65 : decode cX4_mix 65 = .ok (.aload_n 0, 1) := by decide +kernel
theorem dX4_mix_66 : decode cX4_mix 66 = .ok (.getfield 10, 3) := by decide +kernel
theorem dX4_mix_69 : decode cX4_mix 69 = .ok (.fload_n 3, 1) := by decide +kernel
theorem dX4_mix_70 : decode cX4_mix 70 = .ok (.invokevirtual 89, 3) := by decide +kernel
theorem dX4_mix_73 : decode cX4_mix 73 = .ok (.i2l, 1) := by decide +kernel
theorem dX4_mix_74 : decode cX4_mix 74 = .ok (.invokevirtual 93, 3) := by decide +kernel
theorem dX4_mix_77 : decode cX4_mix 77 = .ok (.ireturn, 1) := by decide +kernel
theorem dX4_mix_78 : decode cX4_mix 78 = .ok (.aload_n 0, 1) := by decide +kernel
theorem dX4_mix_79 : decode cX4_mix 79 = .ok (.iload 4, 2) := by decide +kernel
theorem dX4_mix_81 : decode cX4_mix 81 = .ok (.i2l, 1) := by decide +kernel
theorem dX4_mix_82 : decode cX4_mix 82 = .ok (.invokevirtual 93, 3) := by decide +kernel
theorem dX4_mix_85 : decode cX4_mix 85 = .ok (.ireturn, 1) := by decide +kernel
theorem dX4_mix_86 : decode cX4_mix 86 = .ok (.aload_n 0, 1) := by decide +kernel
theorem dX4_mix_87 : decode cX4_mix 87 = .ok (.iload 4, 2) := by decide +kernel
theorem dX4_mix_89 : decode cX4_mix 89 = .ok (.i2s, 1) := by decide +kernel
theorem dX4_mix_90 : decode cX4_mix 90 = .ok (.i2l, 1) := by decide +kernel
theorem dX4_mix_91 : decode cX4_mix 91 = .ok (.invokevirtual 93, 3) := by decide +kernel
theorem dX4_mix_94 : decode cX4_mix 94 = .ok (.ireturn, 1) := by decide +kernel
theorem dX4_mix_95 : decode cX4_mix 95 = .ok (.aload_n 0, 1) := by decide +kernel
theorem dX4_mix_96 : decode cX4_mix 96 = .ok (.fload_n 3, 1) := by decide +kernel
theorem dX4_mix_97 : decode cX4_mix 97 = .ok (.f2l, 1) := by decide +kernel
theorem dX4_mix_98 : decode cX4_mix 98 = .ok (.invokevirtual 93, 3) := by decide +kernel
theorem dX4_mix_101 : decode cX4_mix 101 = .ok (.ireturn, 1) := by decide +kernel
theorem dX4_hush_0 : decode cX4_hush 0 = .ok (.iconst 0, 1) := by decide +kernel
theorem dX4_hush_1 : decode cX4_hush 1 = .ok (.istore_n 1, 1) := by decide +kernel
theorem dX4_hush_2 : decode cX4_hush 2 = .ok (.iload_n 1, 1) := by decide +kernel
theorem dX4_hush_3 : decode cX4_hush 3 = .ok (.bipush 8, 2) := by decide +kernel
theorem dX4_hush_5 : decode cX4_hush 5 = .ok (.if_icmp .ge 16, 3) := by decide +kernel
theorem dX4_hush_8 : decode cX4_hush 8 = .ok (.aload_n 0, 1) := by decide +kernel
theorem dX4_hush_9 : decode cX4_hush 9 = .ok (.getfield 43, 3) := by decide +kernel
theorem dX4_hush_12 : decode cX4_hush 12 = .ok (.iload_n 1, 1) := by decide +kernel
theorem dX4_hush_13 : decode cX4_hush 13 = .ok (.fconst 0, 1) := by decide +kernel
theorem dX4_hush_14 : decode cX4_hush 14 = .ok (.fastore, 1) := by decide +kernel
theorem dX4_hush_15 : decode cX4_hush 15 = .ok (.iinc 1 1, 3) := by decide +kernel
theorem dX4_hush_18 : decode cX4_hush 18 = .ok (.goto (-16), 3) := by decide +kernel
theorem dX4_hush_21 : decode cX4_hush 21 = .ok (.iconst 1, 1) := by decide +kernel
theorem dX4_hush_22 : decode cX4_hush 22 = .ok (.ireturn, 1) := by decide +kernel
theorem dX4_at_0 : decode cX4_at 0 = .ok (.aload_n 0, 1) := by decide +kernel
theorem dX4_at_1 : decode cX4_at 1 = .ok (.iload_n 1, 1) := by decide +kernel
theorem dX4_at_2 : decode cX4_at 2 = .ok (.invokevirtual 132, 3) := by decide +kernel
theorem dX4_at_5 : decode cX4_at 5 = .ok (.ifCond .eq 11, 3) := by decide +kernel
theorem dX4_at_8 : decode cX4_at 8 = .ok (.iload_n 2, 1) := by decide +kernel
theorem dX4_at_9 : decode cX4_at 9 = .ok (.iconst 2, 1) := by decide +kernel
theorem dX4_at_10 : decode cX4_at 10 = .ok (.invokestatic 58, 3) := by decide +kernel
theorem dX4_at_13 : decode cX4_at 13 = .ok (.ifCond .ne 5, 3) := by decide +kernel
theorem dX4_at_16 : decode cX4_at 16 = .ok (.iconst (-1), 1) := by decide +kernel
theorem dX4_at_17 : decode cX4_at 17 = .ok (.ireturn, 1) := by decide +kernel
theorem dX4_at_18 : decode cX4_at 18 = .ok (.aload_n 0, 1) := by decide +kernel
theorem dX4_at_19 : decode cX4_at 19 = .ok (.iload_n 2, 1) := by decide +kernel
theorem dX4_at_20 : decode cX4_at 20 = .ok (.ifCond .ne 22, 3) := by decide +kernel
theorem dX4_at_23 : decode cX4_at 23 = .ok (.aload_n 0, 1) := by decide +kernel
theorem dX4_at_24 : decode cX4_at 24 = .ok (.getfield 10, 3) := by decide +kernel
theorem dX4_at_27 : decode cX4_at 27 = .ok (.aload_n 0, 1) := by decide +kernel
theorem dX4_at_28 : decode cX4_at 28 = .ok (.getfield 39, 3) := by decide +kernel
theorem dX4_at_31 : decode cX4_at 31 = .ok (.iload_n 1, 1) := by decide +kernel
theorem dX4_at_32 : decode cX4_at 32 = .ok (.aaload, 1) := by decide +kernel
theorem dX4_at_33 : decode cX4_at 33 = .ok (.getfield 141, 3) := by decide +kernel
theorem dX4_at_36 : decode cX4_at 36 = .ok (.invokevirtual 85, 3) := by decide +kernel
theorem dX4_at_39 : decode cX4_at 39 = .ok (.goto 12, 3) := by decide +kernel
theorem dX4_at_42 : decode cX4_at 42 = .ok (.aload_n 0, 1) := by decide +kernel
theorem dX4_at_43 : decode cX4_at 43 = .ok (.getfield 39, 3) := by decide +kernel
theorem dX4_at_46 : decode cX4_at 46 = .ok (.iload_n 1, 1) := by decide +kernel
theorem dX4_at_47 : decode cX4_at 47 = .ok (.aaload, 1) := by decide +kernel
theorem dX4_at_48 : decode cX4_at 48 = .ok (.getfield 145, 3) := by decide +kernel
theorem dX4_at_51 : decode cX4_at 51 = .ok (.invokevirtual 93, 3) := by decide +kernel
theorem dX4_at_54 : decode cX4_at 54 = .ok (.ireturn, 1) := by decide +kernel
theorem dX4_clock_0 : decode cX4_clock 0 = .ok (.iload_n 3, 1) := by decide +kernel
theorem dX4_clock_1 : decode cX4_clock 1 = .ok (.bipush 6, 2) := by decide +kernel
theorem dX4_clock_3 : decode cX4_clock 3 = .ok (.invokestatic 58, 3) := by decide +kernel
theorem dX4_clock_6 : decode cX4_clock 6 = .ok (.ifCond .ne 5, 3) := by decide +kernel
theorem dX4_clock_9 : decode cX4_clock 9 = .ok (.iconst (-1), 1) := by decide +kernel
theorem dX4_clock_10 : decode cX4_clock 10 = .ok (.ireturn, 1) := by decide +kernel
theorem dX4_clock_11 : decode cX4_clock 11 = .ok (.aload_n 0, 1) := by decide +kernel
theorem dX4_clock_12 : decode cX4_clock 12 = .ok (.dup, 1) := by decide +kernel
theorem dX4_clock_13 : decode cX4_clock 13 = .ok (.getfield 51, 3) := by decide +kernel
theorem dX4_clock_16 : decode cX4_clock 16 = .ok (.lload_n 1, 1) := by decide +kernel
theorem dX4_clock_17 : decode cX4_clock 17 = .ok (.ladd, 1) := by decide +kernel
theorem dX4_clock_18 : decode cX4_clock 18 = .ok (.putfield 51, 3) := by decide +kernel
theorem dX4_clock_21 : decode cX4_clock 21 = .ok (.iload_n 3, 1) := by decide +kernel
theorem dX4_clock_22 : decode cX4_clock 22 = .ok (.tableswitch 100 0 4 #[34, 43, 61, 78, 89], 34) := by decide +kernel
theorem dX4_clock_56 : decode cX4_clock 56 = .ok (.aload_n 0, 1) := by decide +kernel
theorem dX4_clock_57 : decode cX4_clock 57 = .ok (.aload_n 0, 1) := by decide +kernel
theorem dX4_clock_58 : decode cX4_clock 58 = .ok (.getfield 51, 3) := by decide +kernel
theorem dX4_clock_61 : decode cX4_clock 61 = .ok (.invokevirtual 93, 3) := by decide +kernel
theorem dX4_clock_64 : decode cX4_clock 64 = .ok (.ireturn, 1) := by decide +kernel
theorem dX4_clock_65 : decode cX4_clock 65 = .ok (.aload_n 0, 1) := by decide +kernel
theorem dX4_clock_66 : decode cX4_clock 66 = .ok (.aload_n 0, 1) := by decide +kernel
theorem dX4_clock_67 : decode cX4_clock 67 = .ok (.getfield 10, 3) := by decide +kernel
theorem dX4_clock_70 : decode cX4_clock 70 = .ok (.aload_n 0, 1) := by decide +kernel
theorem dX4_clock_71 : decode cX4_clock 71 = .ok (.getfield 51, 3) := by decide +kernel
theorem dX4_clock_74 : decode cX4_clock 74 = .ok (.l2f, 1) := by decide +kernel
theorem dX4_clock_75 : decode cX4_clock 75 = .ok (.invokevirtual 89, 3) := by decide +kernel
theorem dX4_clock_78 : decode cX4_clock 78 = .ok (.i2l, 1) := by decide +kernel
theorem dX4_clock_79 : decode cX4_clock 79 = .ok (.invokevirtual 93, 3) := by decide +kernel
theorem dX4_clock_82 : decode cX4_clock 82 = .ok (.ireturn, 1) := by decide +kernel
theorem dX4_clock_83 : decode cX4_clock 83 = .ok (.aload_n 0, 1) := by decide +kernel
theorem dX4_clock_84 : decode cX4_clock 84 = .ok (.aload_n 0, 1) := by decide +kernel
theorem dX4_clock_85 : decode cX4_clock 85 = .ok (.getfield 10, 3) := by decide +kernel
theorem dX4_clock_88 : decode cX4_clock 88 = .ok (.aload_n 0, 1) := by decide +kernel
theorem dX4_clock_89 : decode cX4_clock 89 = .ok (.getfield 51, 3) := by decide +kernel
theorem dX4_clock_92 : decode cX4_clock 92 = .ok (.l2d, 1) := by decide +kernel
theorem dX4_clock_93 : decode cX4_clock 93 = .ok (.invokevirtual 85, 3) := by decide +kernel
theorem dX4_clock_96 : decode cX4_clock 96 = .ok (.invokevirtual 93, 3) := by decide +kernel
theorem dX4_clock_99 : decode cX4_clock 99 = .ok (.ireturn, 1) := by decide +kernel
theorem dX4_clock_100 : decode cX4_clock 100 = .ok (.aload_n 0, 1) := by decide +kernel
theorem dX4_clock_101 : decode cX4_clock 101 = .ok (.aload_n 0, 1) := by decide +kernel
theorem dX4_clock_102 : decode cX4_clock 102 = .ok (.getfield 51, 3) := by decide +kernel
theorem dX4_clock_105 : decode cX4_clock 105 = .ok (.l2f, 1) := by decide +kernel
theorem dX4_clock_106 : decode cX4_clock 106 = .ok (.f2l, 1) := by decide +kernel
theorem dX4_clock_107 : decode cX4_clock 107 = .ok (.invokevirtual 93, 3) := by decide +kernel
theorem dX4_clock_110 : decode cX4_clock 110 = .ok (.ireturn, 1) := by decide +kernel
theorem dX4_clock_111 : decode cX4_clock 111 = .ok (.aload_n 0, 1) := by decide +kernel
theorem dX4_clock_112 : decode cX4_clock 112 = .ok (.aload_n 0, 1) := by decide +kernel
theorem dX4_clock_113 : decode cX4_clock 113 = .ok (.getfield 51, 3) := by decide +kernel
theorem dX4_clock_116 : decode cX4_clock 116 = .ok (.l2d, 1) := by decide +kernel
theorem dX4_clock_117 : decode cX4_clock 117 = .ok (.d2l, 1) := by decide +kernel
theorem dX4_clock_118 : decode cX4_clock 118 = .ok (.invokevirtual 93, 3) := by decide +kernel
theorem dX4_clock_121 : decode cX4_clock 121 = .ok (.ireturn, 1) := by decide +kernel
theorem dX4_clock_122 : decode cX4_clock 122 = .ok (.aload_n 0, 1) := by decide +kernel
theorem dX4_clock_123 : decode cX4_clock 123 = .ok (.aload_n 0, 1) := by decide +kernel
theorem dX4_clock_124 : decode cX4_clock 124 = .ok (.getfield 51, 3) := by decide +kernel
theorem dX4_clock_127 : decode cX4_clock 127 = .ok (.l2f, 1) := by decide +kernel
theorem dX4_clock_128 : decode cX4_clock 128 = .ok (.f2i, 1) := by decide +kernel
theorem dX4_clock_129 : decode cX4_clock 129 = .ok (.i2l, 1) := by decide +kernel
theorem dX4_clock_130 : decode cX4_clock 130 = .ok (.invokevirtual 93, 3) := by decide +kernel
theorem dX4_clock_133 : decode cX4_clock 133 = .ok (.ireturn, 1) := by decide +kernel
theorem dX4_told_0 : decode cX4_told 0 = .ok (.aload_n 0, 1) := by decide +kernel
theorem dX4_told_1 : decode cX4_told 1 = .ok (.getfield 55, 3) := by decide +kernel
theorem dX4_told_4 : decode cX4_told 4 = .ok (.lreturn, 1) := by decide +kernel
theorem dX4_isBelow_0 : decode cX4_isBelow 0 = .ok (.iload_n 0, 1) := by decide +kernel
theorem dX4_isBelow_1 : decode cX4_isBelow 1 = .ok (.ifCond .lt 12, 3) := by decide +kernel
theorem dX4_isBelow_4 : decode cX4_isBelow 4 = .ok (.iload_n 0, 1) := by decide +kernel
theorem dX4_isBelow_5 : decode cX4_isBelow 5 = .ok (.iload_n 1, 1) := by decide +kernel
theorem dX4_isBelow_6 : decode cX4_isBelow 6 = .ok (.if_icmp .ge 7, 3) := by decide +kernel
theorem dX4_isBelow_9 : decode cX4_isBelow 9 = .ok (.iconst 1, 1) := by decide +kernel
theorem dX4_isBelow_10 : decode cX4_isBelow 10 = .ok (.goto 4, 3) := by decide +kernel
theorem dX4_isBelow_13 : decode cX4_isBelow 13 = .ok (.iconst 0, 1) := by decide +kernel
theorem dX4_isBelow_14 : decode cX4_isBelow 14 = .ok (.ireturn, 1) := by decide +kernel
theorem dX4_isBelowOrNone_0 : decode cX4_isBelowOrNone 0 = .ok (.iload_n 0, 1) := by decide +kernel
theorem dX4_isBelowOrNone_1 : decode cX4_isBelowOrNone 1 = .ok (.iconst (-1), 1) := by decide +kernel
theorem dX4_isBelowOrNone_2 : decode cX4_isBelowOrNone 2 = .ok (.if_icmp .eq 11, 3) := by decide +kernel
theorem dX4_isBelowOrNone_5 : decode cX4_isBelowOrNone 5 = .ok (.iload_n 0, 1) := by decide +kernel
theorem dX4_isBelowOrNone_6 : decode cX4_isBelowOrNone 6 = .ok (.iload_n 1, 1) := by decide +kernel
theorem dX4_isBelowOrNone_7 : decode cX4_isBelowOrNone 7 = .ok (.invokestatic 58, 3) := by decide +kernel
theorem dX4_isBelowOrNone_10 : decode cX4_isBelowOrNone 10 = .ok (.ifCond .eq 7, 3) := by decide +kernel
theorem dX4_isBelowOrNone_13 : decode cX4_isBelowOrNone 13 = .ok (.iconst 1, 1) := by decide +kernel
theorem dX4_isBelowOrNone_14 : decode cX4_isBelowOrNone 14 = .ok (.goto 4, 3) := by decide +kernel
theorem dX4_isBelowOrNone_17 : decode cX4_isBelowOrNone 17 = .ok (.iconst 0, 1) := by decide +kernel
theorem dX4_isBelowOrNone_18 : decode cX4_isBelowOrNone 18 = .ok (.ireturn, 1) := by decide +kernel
theorem dX4_isWithin_0 : decode cX4_isWithin 0 = .ok (.dload_n 0, 1) := by decide +kernel
theorem dX4_isWithin_1 : decode cX4_isWithin 1 = .ok (.iload_n 2, 1) := by decide +kernel
theorem dX4_isWithin_2 : decode cX4_isWithin 2 = .ok (.ineg, 1) := by decide +kernel
theorem dX4_isWithin_3 : decode cX4_isWithin 3 = .ok (.i2d, 1) := by decide +kernel
theorem dX4_isWithin_4 : decode cX4_isWithin 4 = .ok (.dcmp .l, 1) := by decide +kernel
theorem dX4_isWithin_5 : decode cX4_isWithin 5 = .ok (.ifCond .lt 14, 3) := by decide +kernel
theorem dX4_isWithin_8 : decode cX4_isWithin 8 = .ok (.dload_n 0, 1) := by decide +kernel
theorem dX4_isWithin_9 : decode cX4_isWithin 9 = .ok (.iload_n 2, 1) := by decide +kernel
theorem dX4_isWithin_10 : decode cX4_isWithin 10 = .ok (.i2d, 1) := by decide +kernel
theorem dX4_isWithin_11 : decode cX4_isWithin 11 = .ok (.dcmp .g, 1) := by decide +kernel
theorem dX4_isWithin_12 : decode cX4_isWithin 12 = .ok (.ifCond .gt 7, 3) := by decide +kernel
theorem dX4_isWithin_15 : decode cX4_isWithin 15 = .ok (.iconst 1, 1) := by decide +kernel
theorem dX4_isWithin_16 : decode cX4_isWithin 16 = .ok (.goto 4, 3) := by decide +kernel
theorem dX4_isWithin_19 : decode cX4_isWithin 19 = .ok (.iconst 0, 1) := by decide +kernel
theorem dX4_isWithin_20 : decode cX4_isWithin 20 = .ok (.ireturn, 1) := by decide +kernel
theorem dX4_answerFor_0 : decode cX4_answerFor 0 = .ok (.bipush (-10), 2) := by decide +kernel
theorem dX4_answerFor_2 : decode cX4_answerFor 2 = .ok (.iload_n 0, 1) := by decide +kernel
theorem dX4_answerFor_3 : decode cX4_answerFor 3 = .ok (.isub, 1) := by decide +kernel
theorem dX4_answerFor_4 : decode cX4_answerFor 4 = .ok (.ireturn, 1) := by decide +kernel
theorem dX4_tell_0 : decode cX4_tell 0 = .ok (.aload_n 0, 1) := by decide +kernel
theorem dX4_tell_1 : decode cX4_tell 1 = .ok (.lload_n 1, 1) := by decide +kernel
theorem dX4_tell_2 : decode cX4_tell 2 = .ok (.putfield 55, 3) := by decide +kernel
