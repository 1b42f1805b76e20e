theorem dX5_isFine_0 : decode cX5_isFine 0 = .ok (.iload_n 0, 1) := by decide +kernel
theorem dX5_isFine_1 : decode cX5_isFine 1 = .ok (.ifCond .eq 23, 3) := by decide +kernel
theorem dX5_isFine_4 : decode cX5_isFine 4 = .ok (.lload_n 1, 1) := by decide +kernel
theorem dX5_isFine_5 : decode cX5_isFine 5 = .ok (.ldc2_w 63, 3) := by decide +kernel
theorem dX5_isFine_8 : decode cX5_isFine 8 = .ok (.land, 1) := by decide +kernel
theorem dX5_isFine_9 : decode cX5_isFine 9 = .ok (.ldc2_w 65, 3) := by decide +kernel
theorem dX5_isFine_12 : decode cX5_isFine 12 = .ok (.lcmp, 1) := by decide +kernel
theorem dX5_isFine_13 : decode cX5_isFine 13 = .ok (.ifCond .ge 7, 3) := by decide +kernel
theorem dX5_isFine_16 : decode cX5_isFine 16 = .ok (.iconst 1, 1) := by decide +kernel
theorem dX5_isFine_17 : decode cX5_isFine 17 = .ok (.goto 22, 3) := by decide +kernel
theorem dX5_isFine_20 : decode cX5_isFine 20 = .ok (.iconst 0, 1) := by decide +kernel
theorem dX5_isFine_21 : decode cX5_isFine 21 = .ok (.goto 18, 3) := by decide +kernel
theorem dX5_isFine_24 : decode cX5_isFine 24 = .ok (.lload_n 1, 1) := by decide +kernel
theorem dX5_isFine_25 : decode cX5_isFine 25 = .ok (.l2i, 1) := by decide +kernel
theorem dX5_isFine_26 : decode cX5_isFine 26 = .ok (.ldc 67, 2) := by decide +kernel
theorem dX5_isFine_28 : decode cX5_isFine 28 = .ok (.iand, 1) := by decide +kernel
theorem dX5_isFine_29 : decode cX5_isFine 29 = .ok (.ldc 68, 2) := by decide +kernel
theorem dX5_isFine_31 : decode cX5_isFine 31 = .ok (.if_icmp .ge 7, 3) := by decide +kernel
theorem dX5_isFine_34 : decode cX5_isFine 34 = .ok (.iconst 1, 1) := by decide +kernel
theorem dX5_isFine_35 : decode cX5_isFine 35 = .ok (.goto 4, 3) := by decide +kernel
theorem dX5_isFine_38 : decode cX5_isFine 38 = .ok (.iconst 0, 1) := by decide +kernel
theorem dX5_isFine_39 : decode cX5_isFine 39 = .ok (.ireturn, 1) := by decide +kernel
theorem dX5_number_0 : decode cX5_number 0 = .ok (.iload_n 0, 1) := by decide +kernel
theorem dX5_number_1 : decode cX5_number 1 = .ok (.ifCond .eq 10, 3) := by decide +kernel
theorem dX5_number_4 : decode cX5_number 4 = .ok (.lload_n 1, 1) := by decide +kernel
theorem dX5_number_5 : decode cX5_number 5 = .ok (.invokestatic 69, 3) := by decide +kernel
theorem dX5_number_8 : decode cX5_number 8 = .ok (.goto 9, 3) := by decide +kernel
theorem dX5_number_11 : decode cX5_number 11 = .ok (.lload_n 1, 1) := by decide +kernel
theorem dX5_number_12 : decode cX5_number 12 = .ok (.l2i, 1) := by decide +kernel
theorem dX5_number_13 : decode cX5_number 13 = .ok (.invokestatic 75, 3) := by decide +kernel
theorem dX5_number_16 : decode cX5_number 16 = .ok (.f2d, 1) := by decide +kernel
theorem dX5_number_17 : decode cX5_number 17 = .ok (.dreturn, 1) := by decide +kernel
theorem dX5_bitsOf_0 : decode cX5_bitsOf 0 = .ok (.iload_n 0, 1) := by decide +kernel
theorem dX5_bitsOf_1 : decode cX5_bitsOf 1 = .ok (.ifCond .eq 10, 3) := by decide +kernel
theorem dX5_bitsOf_4 : decode cX5_bitsOf 4 = .ok (.dload_n 1, 1) := by decide +kernel
theorem dX5_bitsOf_5 : decode cX5_bitsOf 5 = .ok (.invokestatic 79, 3) := by decide +kernel
theorem dX5_bitsOf_8 : decode cX5_bitsOf 8 = .ok (.goto 9, 3) := by decide +kernel
theorem dX5_bitsOf_11 : decode cX5_bitsOf 11 = .ok (.dload_n 1, 1) := by decide +kernel
theorem dX5_bitsOf_12 : decode cX5_bitsOf 12 = .ok (.d2f, 1) := by decide +kernel
theorem dX5_bitsOf_13 : decode cX5_bitsOf 13 = .ok (.invokestatic 83, 3) := by decide +kernel
theorem dX5_bitsOf_16 : decode cX5_bitsOf 16 = .ok (.i2l, 1) := by decide +kernel
theorem dX5_bitsOf_17 : decode cX5_bitsOf 17 = .ok (.lreturn, 1) := by decide +kernel
theorem dX5_held_0 : decode cX5_held 0 = .ok (.dload_n 0, 1) := by decide +kernel
theorem dX5_held_1 : decode cX5_held 1 = .ok (.d2f, 1) := by decide +kernel
theorem dX5_held_2 : decode cX5_held 2 = .ok (.fstore_n 2, 1) := by decide +kernel
theorem dX5_held_3 : decode cX5_held 3 = .ok (.fload_n 2, 1) := by decide +kernel
theorem dX5_held_4 : decode cX5_held 4 = .ok (.ldc 87, 2) := by decide +kernel
theorem dX5_held_6 : decode cX5_held 6 = .ok (.fcmp .l, 1) := by decide +kernel
theorem dX5_held_7 : decode cX5_held 7 = .ok (.ifCond .le 9, 3) := by decide +kernel
theorem dX5_held_10 : decode cX5_held 10 = .ok (.ldc2_w 88, 3) := by decide +kernel
theorem dX5_held_13 : decode cX5_held 13 = .ok (.goto 18, 3) := by decide +kernel
theorem dX5_held_16 : decode cX5_held 16 = .ok (.fload_n 2, 1) := by decide +kernel
theorem dX5_held_17 : decode cX5_held 17 = .ok (.ldc 90, 2) := by decide +kernel
theorem dX5_held_19 : decode cX5_held 19 = .ok (.fcmp .g, 1) := by decide +kernel
theorem dX5_held_20 : decode cX5_held 20 = .ok (.ifCond .ge 9, 3) := by decide +kernel
theorem dX5_held_23 : decode cX5_held 23 = .ok (.ldc2_w 91, 3) := by decide +kernel
theorem dX5_held_26 : decode cX5_held 26 = .ok (.goto 5, 3) := by decide +kernel
theorem dX5_held_29 : decode cX5_held 29 = .ok (.fload_n 2, 1) := by decide +kernel
theorem dX5_held_30 : decode cX5_held 30 = .ok (.f2d, 1) := by decide +kernel
theorem dX5_held_31 : decode cX5_held 31 = .ok (.dreturn, 1) := by decide +kernel
theorem dX5_slotOf_0 : decode cX5_slotOf 0 = .ok (.iload_n 0, 1) := by decide +kernel
theorem dX5_slotOf_1 : decode cX5_slotOf 1 = .ok (.ifCond .eq 10, 3) := by decide +kernel
theorem dX5_slotOf_4 : decode cX5_slotOf 4 = .ok (.bipush 6, 2) := by decide +kernel
theorem dX5_slotOf_6 : decode cX5_slotOf 6 = .ok (.iload_n 1, 1) := by decide +kernel
theorem dX5_slotOf_7 : decode cX5_slotOf 7 = .ok (.iadd, 1) := by decide +kernel
theorem dX5_slotOf_8 : decode cX5_slotOf 8 = .ok (.goto 4, 3) := by decide +kernel
theorem dX5_slotOf_11 : decode cX5_slotOf 11 = .ok (.iload_n 1, 1) := by decide +kernel
theorem dX5_slotOf_12 : decode cX5_slotOf 12 = .ok (.ireturn, 1) := by decide +kernel
theorem dX5_row_0 : decode cX5_row 0 = .ok (.iload_n 2, 1) := by decide +kernel
theorem dX5_row_1 : decode cX5_row 1 = .ok (.iconst 0, 1) := by decide +kernel
theorem dX5_row_2 : decode cX5_row 2 = .ok (.iconst 5, 1) := by decide +kernel
theorem dX5_row_3 : decode cX5_row 3 = .ok (.invokestatic 93, 3) := by decide +kernel
theorem dX5_row_6 : decode cX5_row 6 = .ok (.ifCond .eq 13, 3) := by decide +kernel
theorem dX5_row_9 : decode cX5_row 9 = .ok (.iload_n 3, 1) := by decide +kernel
theorem dX5_row_10 : decode cX5_row 10 = .ok (.iconst 0, 1) := by decide +kernel
theorem dX5_row_11 : decode cX5_row 11 = .ok (.bipush 16, 2) := by decide +kernel
theorem dX5_row_13 : decode cX5_row 13 = .ok (.invokestatic 93, 3) := by decide +kernel
theorem dX5_row_16 : decode cX5_row 16 = .ok (.ifCond .ne 5, 3) := by decide +kernel
theorem dX5_row_19 : decode cX5_row 19 = .ok (.iconst (-1), 1) := by decide +kernel
theorem dX5_row_20 : decode cX5_row 20 = .ok (.ireturn, 1) := by decide +kernel
theorem dX5_row_21 : decode cX5_row 21 = .ok (.aload_n 0, 1) := by decide +kernel
theorem dX5_row_22 : decode cX5_row 22 = .ok (.getfield 9, 3) := by decide +kernel
theorem dX5_row_25 : decode cX5_row 25 = .ok (.aload_n 0, 1) := by decide +kernel
theorem dX5_row_26 : decode cX5_row 26 = .ok (.getfield 97, 3) := by decide +kernel
theorem dX5_row_29 : decode cX5_row 29 = .ok (.iload_n 3, 1) := by decide +kernel
theorem dX5_row_30 : decode cX5_row 30 = .ok (.iastore, 1) := by decide +kernel
theorem dX5_row_31 : decode cX5_row 31 = .ok (.iconst 0, 1) := by decide +kernel
theorem dX5_row_32 : decode cX5_row 32 = .ok (.istore 4, 2) := by decide +kernel
theorem dX5_row_34 : decode cX5_row 34 = .ok (.iload 4, 2) := by decide +kernel
theorem dX5_row_36 : decode cX5_row 36 = .ok (.bipush 16, 2) := by decide +kernel
theorem dX5_row_38 : decode cX5_row 38 = .ok (.if_icmp .ge 25, 3) := by decide +kernel
theorem dX5_row_41 : decode cX5_row 41 = .ok (.aload_n 0, 1) := by decide +kernel
theorem dX5_row_42 : decode cX5_row 42 = .ok (.getfield 15, 3) := by decide +kernel
theorem dX5_row_45 : decode cX5_row 45 = .ok (.bipush 16, 2) := by decide +kernel
theorem dX5_row_47 : decode cX5_row 47 = .ok (.aload_n 0, 1) := by decide +kernel
theorem dX5_row_48 : decode cX5_row 48 = .ok (.getfield 97, 3) := by decide +kernel
theorem dX5_row_51 : decode cX5_row 51 = .ok (.imul, 1) := by decide +kernel
theorem dX5_row_52 : decode cX5_row 52 = .ok (.iload 4, 2) := by decide +kernel
theorem dX5_row_54 : decode cX5_row 54 = .ok (.iadd, 1) := by decide +kernel
theorem dX5_row_55 : decode cX5_row 55 = .ok (.dconst 0, 1) := by decide +kernel
theorem dX5_row_56 : decode cX5_row 56 = .ok (.dastore, 1) := by decide +kernel
theorem dX5_row_57 : decode cX5_row 57 = .ok (.iinc 4 1, 3) := by decide +kernel
theorem dX5_row_60 : decode cX5_row 60 = .ok (.goto (-26), 3) := by decide +kernel
theorem dX5_row_63 : decode cX5_row 63 = .ok (.aload_n 0, 1) := by decide +kernel
theorem dX5_row_64 : decode cX5_row 64 = .ok (.getfield 19, 3) := by decide +kernel
theorem dX5_row_67 : decode cX5_row 67 = .ok (.iload_n 1, 1) := by decide +kernel
theorem dX5_row_68 : decode cX5_row 68 = .ok (.iload_n 2, 1) := by decide +kernel
theorem dX5_row_69 : decode cX5_row 69 = .ok (.invokestatic 101, 3) := by decide +kernel
theorem dX5_row_72 : decode cX5_row 72 = .ok (.aload_n 0, 1) := by decide +kernel
theorem dX5_row_73 : decode cX5_row 73 = .ok (.getfield 97, 3) := by decide +kernel
theorem dX5_row_76 : decode cX5_row 76 = .ok (.iastore, 1) := by decide +kernel
theorem dX5_row_77 : decode cX5_row 77 = .ok (.aload_n 0, 1) := by decide +kernel
theorem dX5_row_78 : decode cX5_row 78 = .ok (.dup, 1) := by decide +kernel
theorem dX5_row_79 : decode cX5_row 79 = .ok (.getfield 97, 3) := by decide +kernel
theorem dX5_row_82 : decode cX5_row 82 = .ok (.iconst 1, 1) := by decide +kernel
theorem dX5_row_83 : decode cX5_row 83 = .ok (.iadd, 1) := by decide +kernel
theorem dX5_row_84 : decode cX5_row 84 = .ok (.putfield 97, 3) := by decide +kernel
theorem dX5_row_87 : decode cX5_row 87 = .ok (.iconst 1, 1) := by decide +kernel
theorem dX5_row_88 : decode cX5_row 88 = .ok (.ireturn, 1) := by decide +kernel
theorem dX5_share_0 : decode cX5_share 0 = .ok (.iload_n 2, 1) := by decide +kernel
theorem dX5_share_1 : decode cX5_share 1 = .ok (.iconst 0, 1) := by decide +kernel
theorem dX5_share_2 : decode cX5_share 2 = .ok (.iconst 5, 1) := by decide +kernel
theorem dX5_share_3 : decode cX5_share 3 = .ok (.invokestatic 93, 3) := by decide +kernel
theorem dX5_share_6 : decode cX5_share 6 = .ok (.ifCond .eq 12, 3) := by decide +kernel
theorem dX5_share_9 : decode cX5_share 9 = .ok (.iload_n 3, 1) := by decide +kernel
theorem dX5_share_10 : decode cX5_share 10 = .ok (.iconst 0, 1) := by decide +kernel
theorem dX5_share_11 : decode cX5_share 11 = .ok (.iconst 5, 1) := by decide +kernel
theorem dX5_share_12 : decode cX5_share 12 = .ok (.invokestatic 93, 3) := by decide +kernel
theorem dX5_share_15 : decode cX5_share 15 = .ok (.ifCond .ne 5, 3) := by decide +kernel
theorem dX5_share_18 : decode cX5_share 18 = .ok (.iconst (-1), 1) := by decide +kernel
theorem dX5_share_19 : decode cX5_share 19 = .ok (.ireturn, 1) := by decide +kernel
theorem dX5_share_20 : decode cX5_share 20 = .ok (.aload_n 0, 1) := by decide +kernel
theorem dX5_share_21 : decode cX5_share 21 = .ok (.getfield 19, 3) := by decide +kernel
theorem dX5_share_24 : decode cX5_share 24 = .ok (.iload_n 1, 1) := by decide +kernel
theorem dX5_share_25 : decode cX5_share 25 = .ok (.iload_n 3, 1) := by decide +kernel
theorem dX5_share_26 : decode cX5_share 26 = .ok (.invokestatic 101, 3) := by decide +kernel
theorem dX5_share_29 : decode cX5_share 29 = .ok (.aload_n 0, 1) := by decide +kernel
theorem dX5_share_30 : decode cX5_share 30 = .ok (.getfield 19, 3) := by decide +kernel
theorem dX5_share_33 : decode cX5_share 33 = .ok (.iload_n 1, 1) := by decide +kernel
theorem dX5_share_34 : decode cX5_share 34 = .ok (.iload_n 2, 1) := by decide +kernel
theorem dX5_share_35 : decode cX5_share 35 = .ok (.invokestatic 101, 3) := by decide +kernel
theorem dX5_share_38 : decode cX5_share 38 = .ok (.iaload, 1) := by decide +kernel
theorem dX5_share_39 : decode cX5_share 39 = .ok (.iastore, 1) := by decide +kernel
theorem dX5_share_40 : decode cX5_share 40 = .ok (.aload_n 0, 1) := by decide +kernel
theorem dX5_share_41 : decode cX5_share 41 = .ok (.getfield 19, 3) := by decide +kernel
theorem dX5_share_44 : decode cX5_share 44 = .ok (.iload_n 1, 1) := by decide +kernel
theorem dX5_share_45 : decode cX5_share 45 = .ok (.iload_n 3, 1) := by decide +kernel
theorem dX5_share_46 : decode cX5_share 46 = .ok (.invokestatic 101, 3) := by decide +kernel
theorem dX5_share_49 : decode cX5_share 49 = .ok (.iaload, 1) := by decide +kernel
theorem dX5_share_50 : decode cX5_share 50 = .ok (.ifCond .ge 7, 3) := by decide +kernel
theorem dX5_share_53 : decode cX5_share 53 = .ok (.iconst 0, 1) := by decide +kernel
theorem dX5_share_54 : decode cX5_share 54 = .ok (.goto 4, 3) := by decide +kernel
theorem dX5_share_57 : decode cX5_share 57 = .ok (.iconst 1, 1) := by decide +kernel
theorem dX5_share_58 : decode cX5_share 58 = .ok (.ireturn, 1) := by decide +kernel
theorem dX5_drop_0 : decode cX5_drop 0 = .ok (.iload_n 2, 1) := by decide +kernel
theorem dX5_drop_1 : decode cX5_drop 1 = .ok (.iconst 0, 1) := by decide +kernel
theorem dX5_drop_2 : decode cX5_drop 2 = .ok (.iconst 5, 1) := by decide +kernel
theorem dX5_drop_3 : decode cX5_drop 3 = .ok (.invokestatic 93, 3) := by decide +kernel
theorem dX5_drop_6 : decode cX5_drop 6 = .ok (.ifCond .ne 5, 3) := by decide +kernel
theorem dX5_drop_9 : decode cX5_drop 9 = .ok (.iconst (-1), 1) := by decide +kernel
theorem dX5_drop_10 : decode cX5_drop 10 = .ok (.ireturn, 1) := by decide +kernel
theorem dX5_drop_11 : decode cX5_drop 11 = .ok (.aload_n 0, 1) := by decide +kernel
theorem dX5_drop_12 : decode cX5_drop 12 = .ok (.getfield 19, 3) := by decide +kernel
theorem dX5_drop_15 : decode cX5_drop 15 = .ok (.iload_n 1, 1) := by decide +kernel
theorem dX5_drop_16 : decode cX5_drop 16 = .ok (.iload_n 2, 1) := by decide +kernel
theorem dX5_drop_17 : decode cX5_drop 17 = .ok (.invokestatic 101, 3) := by decide +kernel
theorem dX5_drop_20 : decode cX5_drop 20 = .ok (.iaload, 1) := by decide +kernel
theorem dX5_drop_21 : decode cX5_drop 21 = .ok (.ifCond .ge 7, 3) := by decide +kernel
theorem dX5_drop_24 : decode cX5_drop 24 = .ok (.iconst 0, 1) := by decide +kernel
theorem dX5_drop_25 : decode cX5_drop 25 = .ok (.goto 4, 3) := by decide +kernel
theorem dX5_drop_28 : decode cX5_drop 28 = .ok (.iconst 1, 1) := by decide +kernel
theorem dX5_drop_29 : decode cX5_drop 29 = .ok (.istore_n 3, 1) := by decide +kernel
theorem dX5_drop_30 : decode cX5_drop 30 = .ok (.aload_n 0, 1) := by decide +kernel
theorem dX5_drop_31 : decode cX5_drop 31 = .ok (.getfield 19, 3) := by decide +kernel
theorem dX5_drop_34 : decode cX5_drop 34 = .ok (.iload_n 1, 1) := by decide +kernel
theorem dX5_drop_35 : decode cX5_drop 35 = .ok (.iload_n 2, 1) := by decide +kernel
theorem dX5_drop_36 : decode cX5_drop 36 = .ok (.invokestatic 101, 3) := by decide +kernel
theorem dX5_drop_39 : decode cX5_drop 39 = .ok (.iconst (-1), 1) := by decide +kernel
theorem dX5_drop_40 : decode cX5_drop 40 = .ok (.iastore, 1) := by decide +kernel
theorem dX5_drop_41 : decode cX5_drop 41 = .ok (.iload_n 3, 1) := by decide +kernel
theorem dX5_drop_42 : decode cX5_drop 42 = .ok (.ireturn, 1) := by decide +kernel
theorem dX5_asked_0 : decode cX5_asked 0 = .ok (.aload_n 0, 1) := by decide +kernel
theorem dX5_asked_1 : decode cX5_asked 1 = .ok (.getfield 19, 3) := by decide +kernel
theorem dX5_asked_4 : decode cX5_asked 4 = .ok (.iload_n 1, 1) := by decide +kernel
theorem dX5_asked_5 : decode cX5_asked 5 = .ok (.iload_n 2, 1) := by decide +kernel
theorem dX5_asked_6 : decode cX5_asked 6 = .ok (.invokestatic 101, 3) := by decide +kernel
theorem dX5_asked_9 : decode cX5_asked 9 = .ok (.iaload, 1) := by decide +kernel
theorem dX5_asked_10 : decode cX5_asked 10 = .ok (.istore 4, 2) := by decide +kernel
theorem dX5_asked_12 : decode cX5_asked 12 = .ok (.iload 4, 2) := by decide +kernel
theorem dX5_asked_14 : decode cX5_asked 14 = .ok (.ifCond .ge 7, 3) := by decide +kernel
theorem dX5_asked_17 : decode cX5_asked 17 = .ok (.iconst 1, 1) := by decide +kernel
theorem dX5_asked_18 : decode cX5_asked 18 = .ok (.goto 25, 3) := by decide +kernel
theorem dX5_asked_21 : decode cX5_asked 21 = .ok (.iload_n 3, 1) := by decide +kernel
theorem dX5_asked_22 : decode cX5_asked 22 = .ok (.iconst 0, 1) := by decide +kernel
theorem dX5_asked_23 : decode cX5_asked 23 = .ok (.aload_n 0, 1) := by decide +kernel
theorem dX5_asked_24 : decode cX5_asked 24 = .ok (.getfield 9, 3) := by decide +kernel
theorem dX5_asked_27 : decode cX5_asked 27 = .ok (.iload 4, 2) := by decide +kernel
theorem dX5_asked_29 : decode cX5_asked 29 = .ok (.iaload, 1) := by decide +kernel
theorem dX5_asked_30 : decode cX5_asked 30 = .ok (.iconst 1, 1) := by decide +kernel
theorem dX5_asked_31 : decode cX5_asked 31 = .ok (.isub, 1) := by decide +kernel
theorem dX5_asked_32 : decode cX5_asked 32 = .ok (.invokestatic 93, 3) := by decide +kernel
theorem dX5_asked_35 : decode cX5_asked 35 = .ok (.ifCond .eq 7, 3) := by decide +kernel
theorem dX5_asked_38 : decode cX5_asked 38 = .ok (.iconst 0, 1) := by decide +kernel
theorem dX5_asked_39 : decode cX5_asked 39 = .ok (.goto 4, 3) := by decide +kernel
theorem dX5_asked_42 : decode cX5_asked 42 = .ok (.iconst 2, 1) := by decide +kernel
theorem dX5_asked_43 : decode cX5_asked 43 = .ok (.ireturn, 1) := by decide +kernel
theorem dX5_item_0 : decode cX5_item 0 = .ok (.aload_n 0, 1) := by decide +kernel
theorem dX5_item_1 : decode cX5_item 1 = .ok (.getfield 15, 3) := by decide +kernel
theorem dX5_item_4 : decode cX5_item 4 = .ok (.bipush 16, 2) := by decide +kernel
theorem dX5_item_6 : decode cX5_item 6 = .ok (.aload_n 0, 1) := by decide +kernel
theorem dX5_item_7 : decode cX5_item 7 = .ok (.getfield 19, 3) := by decide +kernel
theorem dX5_item_10 : decode cX5_item 10 = .ok (.iload_n 1, 1) := by decide +kernel
theorem dX5_item_11 : decode cX5_item 11 = .ok (.iload_n 2, 1) := by decide +kernel
theorem dX5_item_12 : decode cX5_item 12 = .ok (.invokestatic 101, 3) := by decide +kernel
theorem dX5_item_15 : decode cX5_item 15 = .ok (.iaload, 1) := by decide +kernel
theorem dX5_item_16 : decode cX5_item 16 = .ok (.imul, 1) := by decide +kernel
theorem dX5_item_17 : decode cX5_item 17 = .ok (.iload_n 3, 1) := by decide +kernel
theorem dX5_item_18 : decode cX5_item 18 = .ok (.iadd, 1) := by decide +kernel
theorem dX5_item_19 : decode cX5_item 19 = .ok (.daload, 1) := by decide +kernel
theorem dX5_item_20 : decode cX5_item 20 = .ok (.dreturn, 1) := by decide +kernel
theorem dX5_set_0 : decode cX5_set 0 = .ok (.iload_n 2, 1) := by decide +kernel
theorem dX5_set_1 : decode cX5_set 1 = .ok (.iconst 0, 1) := by decide +kernel
theorem dX5_set_2 : decode cX5_set 2 = .ok (.iconst 5, 1) := by decide +kernel
theorem dX5_set_3 : decode cX5_set 3 = .ok (.invokestatic 93, 3) := by decide +kernel
theorem dX5_set_6 : decode cX5_set 6 = .ok (.ifCond .eq 12, 3) := by decide +kernel
theorem dX5_set_9 : decode cX5_set 9 = .ok (.iload_n 1, 1) := by decide +kernel
theorem dX5_set_10 : decode cX5_set 10 = .ok (.lload 4, 2) := by decide +kernel
theorem dX5_set_12 : decode cX5_set 12 = .ok (.invokestatic 105, 3) := by decide +kernel
theorem dX5_set_15 : decode cX5_set 15 = .ok (.ifCond .ne 5, 3) := by decide +kernel
theorem dX5_set_18 : decode cX5_set 18 = .ok (.iconst (-1), 1) := by decide +kernel
theorem dX5_set_19 : decode cX5_set 19 = .ok (.ireturn, 1) := by decide +kernel
theorem dX5_set_20 : decode cX5_set 20 = .ok (.aload_n 0, 1) := by decide +kernel
theorem dX5_set_21 : decode cX5_set 21 = .ok (.iload_n 1, 1) := by decide +kernel
theorem dX5_set_22 : decode cX5_set 22 = .ok (.iload_n 2, 1) := by decide +kernel
theorem dX5_set_23 : decode cX5_set 23 = .ok (.iload_n 3, 1) := by decide +kernel
theorem dX5_set_24 : decode cX5_set 24 = .ok (.invokevirtual 109, 3) := by decide +kernel
theorem dX5_set_27 : decode cX5_set 27 = .ok (.istore 6, 2) := by decide +kernel
theorem dX5_set_29 : decode cX5_set 29 = .ok (.iload 6, 2) := by decide +kernel
theorem dX5_set_31 : decode cX5_set 31 = .ok (.ifCond .eq 9, 3) := by decide +kernel
theorem dX5_set_34 : decode cX5_set 34 = .ok (.iload 6, 2) := by decide +kernel
theorem dX5_set_36 : decode cX5_set 36 = .ok (.invokestatic 113, 3) := by decide +kernel
theorem dX5_set_39 : decode cX5_set 39 = .ok (.ireturn, 1) := by decide +kernel
theorem dX5_set_40 : decode cX5_set 40 = .ok (.aload_n 0, 1) := by decide +kernel
theorem dX5_set_41 : decode cX5_set 41 = .ok (.getfield 15, 3) := by decide +kernel
theorem dX5_set_44 : decode cX5_set 44 = .ok (.bipush 16, 2) := by decide +kernel
theorem dX5_set_46 : decode cX5_set 46 = .ok (.aload_n 0, 1) := by decide +kernel
theorem dX5_set_47 : decode cX5_set 47 = .ok (.getfield 19, 3) := by decide +kernel
theorem dX5_set_50 : decode cX5_set 50 = .ok (.iload_n 1, 1) := by decide +kernel
theorem dX5_set_51 : decode cX5_set 51 = .ok (.iload_n 2, 1) := by decide +kernel
theorem dX5_set_52 : decode cX5_set 52 = .ok (.invokestatic 101, 3) := by decide +kernel
theorem dX5_set_55 : decode cX5_set 55 = .ok (.iaload, 1) := by decide +kernel
theorem dX5_set_56 : decode cX5_set 56 = .ok (.imul, 1) := by decide +kernel
theorem dX5_set_57 : decode cX5_set 57 = .ok (.iload_n 3, 1) := by decide +kernel
theorem dX5_set_58 : decode cX5_set 58 = .ok (.iadd, 1) := by decide +kernel
theorem dX5_set_59 : decode cX5_set 59 = .ok (.iload_n 1, 1) := by decide +kernel
theorem dX5_set_60 : decode cX5_set 60 = .ok (.lload 4, 2) := by decide +kernel
theorem dX5_set_62 : decode cX5_set 62 = .ok (.invokestatic 117, 3) := by decide +kernel
theorem dX5_set_65 : decode cX5_set 65 = .ok (.dastore, 1) := by decide +kernel
theorem dX5_set_66 : decode cX5_set 66 = .ok (.iconst 1, 1) := by decide +kernel
theorem dX5_set_67 : decode cX5_set 67 = .ok (.ireturn, 1) := by decide +kernel
theorem dX5_get_0 : decode cX5_get 0 = .ok (.iload_n 2, 1) := by decide +kernel
theorem dX5_get_1 : decode cX5_get 1 = .ok (.iconst 0, 1) := by decide +kernel
theorem dX5_get_2 : decode cX5_get 2 = .ok (.iconst 5, 1) := by decide +kernel
theorem dX5_get_3 : decode cX5_get 3 = .ok (.invokestatic 93, 3) := by decide +kernel
theorem dX5_get_6 : decode cX5_get 6 = .ok (.ifCond .ne 5, 3) := by decide +kernel
theorem dX5_get_9 : decode cX5_get 9 = .ok (.iconst (-1), 1) := by decide +kernel
theorem dX5_get_10 : decode cX5_get 10 = .ok (.ireturn, 1) := by decide +kernel
theorem dX5_get_11 : decode cX5_get 11 = .ok (.aload_n 0, 1) := by decide +kernel
theorem dX5_get_12 : decode cX5_get 12 = .ok (.iload_n 1, 1) := by decide +kernel
theorem dX5_get_13 : decode cX5_get 13 = .ok (.iload_n 2, 1) := by decide +kernel
theorem dX5_get_14 : decode cX5_get 14 = .ok (.iload_n 3, 1) := by decide +kernel
theorem dX5_get_15 : decode cX5_get 15 = .ok (.invokevirtual 109, 3) := by decide +kernel
theorem dX5_get_18 : decode cX5_get 18 = .ok (.istore 4, 2) := by decide +kernel
theorem dX5_get_20 : decode cX5_get 20 = .ok (.iload 4, 2) := by decide +kernel
theorem dX5_get_22 : decode cX5_get 22 = .ok (.ifCond .eq 9, 3) := by decide +kernel
theorem dX5_get_25 : decode cX5_get 25 = .ok (.iload 4, 2) := by decide +kernel
theorem dX5_get_27 : decode cX5_get 27 = .ok (.invokestatic 113, 3) := by decide +kernel
theorem dX5_get_30 : decode cX5_get 30 = .ok (.ireturn, 1) := by decide +kernel
theorem dX5_get_31 : decode cX5_get 31 = .ok (.aload_n 0, 1) := by decide +kernel
theorem dX5_get_32 : decode cX5_get 32 = .ok (.iload_n 1, 1) := by decide +kernel
theorem dX5_get_33 : decode cX5_get 33 = .ok (.aload_n 0, 1) := by decide +kernel
theorem dX5_get_34 : decode cX5_get 34 = .ok (.iload_n 1, 1) := by decide +kernel
theorem dX5_get_35 : decode cX5_get 35 = .ok (.iload_n 2, 1) := by decide +kernel
theorem dX5_get_36 : decode cX5_get 36 = .ok (.iload_n 3, 1) := by decide +kernel
theorem dX5_get_37 : decode cX5_get 37 = .ok (.invokevirtual 121, 3) := by decide +kernel
theorem dX5_get_40 : decode cX5_get 40 = .ok (.invokestatic 125, 3) := by decide +kernel
theorem dX5_get_43 : decode cX5_get 43 = .ok (.putfield 129, 3) := by decide +kernel
theorem dX5_get_46 : decode cX5_get 46 = .ok (.iconst 1, 1) := by decide +kernel
theorem dX5_get_47 : decode cX5_get 47 = .ok (.ireturn, 1) := by decide +kernel
theorem dX5_wrap_0 : decode cX5_wrap 0 = .ok (.iload_n 2, 1) := by decide +kernel
theorem dX5_wrap_1 : decode cX5_wrap 1 = .ok (.iconst 0, 1) := by decide +kernel
theorem dX5_wrap_2 : decode cX5_wrap 2 = .ok (.iconst 5, 1) := by decide +kernel
theorem dX5_wrap_3 : decode cX5_wrap 3 = .ok (.invokestatic 93, 3) := by decide +kernel
theorem dX5_wrap_6 : decode cX5_wrap 6 = .ok (.ifCond .ne 5, 3) := by decide +kernel
theorem dX5_wrap_9 : decode cX5_wrap 9 = .ok (.iconst (-1), 1) := by decide +kernel
theorem dX5_wrap_10 : decode cX5_wrap 10 = .ok (.ireturn, 1) := by decide +kernel
theorem dX5_wrap_11 : decode cX5_wrap 11 = .ok (.aload_n 0, 1) := by decide +kernel
theorem dX5_wrap_12 : decode cX5_wrap 12 = .ok (.iload_n 1, 1) := by decide +kernel
theorem dX5_wrap_13 : decode cX5_wrap 13 = .ok (.iload_n 2, 1) := by decide +kernel
theorem dX5_wrap_14 : decode cX5_wrap 14 = .ok (.iload_n 3, 1) := by decide +kernel
theorem dX5_wrap_15 : decode cX5_wrap 15 = .ok (.invokevirtual 109, 3) := by decide +kernel
theorem dX5_wrap_18 : decode cX5_wrap 18 = .ok (.istore 5, 2) := by decide +kernel
theorem dX5_wrap_20 : decode cX5_wrap 20 = .ok (.iload 5, 2) := by decide +kernel
theorem dX5_wrap_22 : decode cX5_wrap 22 = .ok (.ifCond .eq 8, 3) := by decide +kernel
theorem dX5_wrap_25 : decode cX5_wrap 25 = .ok (.iload 5, 2) := by decide +kernel
theorem dX5_wrap_27 : decode cX5_wrap 27 = .ok (.goto 11, 3) := by decide +kernel
theorem dX5_wrap_30 : decode cX5_wrap 30 = .ok (.aload_n 0, 1) := by decide +kernel
theorem dX5_wrap_31 : decode cX5_wrap 31 = .ok (.iload_n 1, 1) := by decide +kernel
theorem dX5_wrap_32 : decode cX5_wrap 32 = .ok (.iload_n 2, 1) := by decide +kernel
theorem dX5_wrap_33 : decode cX5_wrap 33 = .ok (.iload 4, 2) := by decide +kernel
theorem dX5_wrap_35 : decode cX5_wrap 35 = .ok (.invokevirtual 109, 3) := by decide +kernel
theorem dX5_wrap_38 : decode cX5_wrap 38 = .ok (.istore 5, 2) := by decide +kernel
theorem dX5_wrap_40 : decode cX5_wrap 40 = .ok (.iload 5, 2) := by decide +kernel
theorem dX5_wrap_42 : decode cX5_wrap 42 = .ok (.ifCond .eq 9, 3) := by decide +kernel
theorem dX5_wrap_45 : decode cX5_wrap 45 = .ok (.iload 5, 2) := by decide +kernel
theorem dX5_wrap_47 : decode cX5_wrap 47 = .ok (.invokestatic 113, 3) := by decide +kernel
theorem dX5_wrap_50 : decode cX5_wrap 50 = .ok (.ireturn, 1) := by decide +kernel
theorem dX5_wrap_51 : decode cX5_wrap 51 = .ok (.aload_n 0, 1) := by decide +kernel
theorem dX5_wrap_52 : decode cX5_wrap 52 = .ok (.iload_n 1, 1) := by decide +kernel
theorem dX5_wrap_53 : decode cX5_wrap 53 = .ok (.iload_n 2, 1) := by decide +kernel
theorem dX5_wrap_54 : decode cX5_wrap 54 = .ok (.iload 4, 2) := by decide +kernel
theorem dX5_wrap_56 : decode cX5_wrap 56 = .ok (.invokevirtual 121, 3) := by decide +kernel
theorem dX5_wrap_59 : decode cX5_wrap 59 = .ok (.dstore 6, 2) := by decide +kernel
theorem dX5_wrap_61 : decode cX5_wrap 61 = .ok (.dload 6, 2) := by decide +kernel
theorem dX5_wrap_63 : decode cX5_wrap 63 = .ok (.dconst 0, 1) := by decide +kernel
theorem dX5_wrap_64 : decode cX5_wrap 64 = .ok (.dcmp .l, 1) := by decide +kernel
theorem dX5_wrap_65 : decode cX5_wrap 65 = .ok (.ifCond .ne 8, 3) := by decide +kernel
theorem dX5_wrap_68 : decode cX5_wrap 68 = .ok (.iconst 5, 1) := by decide +kernel
theorem dX5_wrap_69 : decode cX5_wrap 69 = .ok (.invokestatic 113, 3) := by decide +kernel
theorem dX5_wrap_72 : decode cX5_wrap 72 = .ok (.ireturn, 1) := by decide +kernel
