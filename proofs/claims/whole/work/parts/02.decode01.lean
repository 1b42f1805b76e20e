theorem dX0_init_0 : decode cX0_init 0 = .ok (.aload_n 0, 1) := by decide +kernel
theorem dX0_init_1 : decode cX0_init 1 = .ok (.invokespecial 1, 3) := by decide +kernel
theorem dX0_init_4 : decode cX0_init 4 = .ok (.aload_n 0, 1) := by decide +kernel
theorem dX0_init_5 : decode cX0_init 5 = .ok (.iload_n 1, 1) := by decide +kernel
theorem dX0_init_6 : decode cX0_init 6 = .ok (.putfield 7, 3) := by decide +kernel
theorem dX0_init_9 : decode cX0_init 9 = .ok (.aload_n 0, 1) := by decide +kernel
theorem dX0_init_10 : decode cX0_init 10 = .ok (.dload_n 2, 1) := by decide +kernel
theorem dX0_init_11 : decode cX0_init 11 = .ok (.putfield 13, 3) := by decide +kernel
theorem dX0_init_14 : decode cX0_init 14 = .ok (.return_, 1) := by decide +kernel
theorem dX0_isOf_0 : decode cX0_isOf 0 = .ok (.aload_n 0, 1) := by decide +kernel
theorem dX0_isOf_1 : decode cX0_isOf 1 = .ok (.getfield 7, 3) := by decide +kernel
theorem dX0_isOf_4 : decode cX0_isOf 4 = .ok (.iload_n 1, 1) := by decide +kernel
theorem dX0_isOf_5 : decode cX0_isOf 5 = .ok (.if_icmp .eq 15, 3) := by decide +kernel
theorem dX0_isOf_8 : decode cX0_isOf 8 = .ok (.iload_n 1, 1) := by decide +kernel
theorem dX0_isOf_9 : decode cX0_isOf 9 = .ok (.ifCond .ne 15, 3) := by decide +kernel
theorem dX0_isOf_12 : decode cX0_isOf 12 = .ok (.aload_n 0, 1) := by decide +kernel
theorem dX0_isOf_13 : decode cX0_isOf 13 = .ok (.getfield 7, 3) := by decide +kernel
theorem dX0_isOf_16 : decode cX0_isOf 16 = .ok (.iconst 1, 1) := by decide +kernel
theorem dX0_isOf_17 : decode cX0_isOf 17 = .ok (.if_icmp .ne 7, 3) := by decide +kernel
theorem dX0_isOf_20 : decode cX0_isOf 20 = .ok (.iconst 1, 1) := by decide +kernel
theorem dX0_isOf_21 : decode cX0_isOf 21 = .ok (.goto 4, 3) := by decide +kernel
theorem dX0_isOf_24 : decode cX0_isOf 24 = .ok (.iconst 0, 1) := by decide +kernel
theorem dX0_isOf_25 : decode cX0_isOf 25 = .ok (.ireturn, 1) := by decide +kernel
theorem dX0_madeOf_0 : decode cX0_madeOf 0 = .ok (.aload_n 0, 1) := by decide +kernel
theorem dX0_madeOf_1 : decode cX0_madeOf 1 = .ok (.getfield 7, 3) := by decide +kernel
theorem dX0_madeOf_4 : decode cX0_madeOf 4 = .ok (.lookupswitch 57 #[(0, 28), (1, 38)], 28) := by decide +kernel
theorem dX0_madeOf_32 : decode cX0_madeOf 32 = .ok (.dload_n 1, 1) := by decide +kernel
theorem dX0_madeOf_33 : decode cX0_madeOf 33 = .ok (.aload_n 0, 1) := by decide +kernel
theorem dX0_madeOf_34 : decode cX0_madeOf 34 = .ok (.getfield 13, 3) := by decide +kernel
theorem dX0_madeOf_37 : decode cX0_madeOf 37 = .ok (.dmul, 1) := by decide +kernel
theorem dX0_madeOf_38 : decode cX0_madeOf 38 = .ok (.invokestatic 17, 3) := by decide +kernel
theorem dX0_madeOf_41 : decode cX0_madeOf 41 = .ok (.freturn, 1) := by decide +kernel
theorem dX0_madeOf_42 : decode cX0_madeOf 42 = .ok (.dload_n 1, 1) := by decide +kernel
theorem dX0_madeOf_43 : decode cX0_madeOf 43 = .ok (.aload_n 0, 1) := by decide +kernel
theorem dX0_madeOf_44 : decode cX0_madeOf 44 = .ok (.getfield 13, 3) := by decide +kernel
theorem dX0_madeOf_47 : decode cX0_madeOf 47 = .ok (.dmul, 1) := by decide +kernel
theorem dX0_madeOf_48 : decode cX0_madeOf 48 = .ok (.ldc2_w 23, 3) := by decide +kernel
theorem dX0_madeOf_51 : decode cX0_madeOf 51 = .ok (.invokestatic 25, 3) := by decide +kernel
theorem dX0_madeOf_54 : decode cX0_madeOf 54 = .ok (.invokestatic 29, 3) := by decide +kernel
theorem dX0_madeOf_57 : decode cX0_madeOf 57 = .ok (.invokestatic 17, 3) := by decide +kernel
theorem dX0_madeOf_60 : decode cX0_madeOf 60 = .ok (.freturn, 1) := by decide +kernel
theorem dX0_madeOf_61 : decode cX0_madeOf 61 = .ok (.aload_n 0, 1) := by decide +kernel
theorem dX0_madeOf_62 : decode cX0_madeOf 62 = .ok (.dload_n 1, 1) := by decide +kernel
theorem dX0_madeOf_63 : decode cX0_madeOf 63 = .ok (.invokevirtual 33, 3) := by decide +kernel
theorem dX0_madeOf_66 : decode cX0_madeOf 66 = .ok (.invokestatic 17, 3) := by decide +kernel
theorem dX0_madeOf_69 : decode cX0_madeOf 69 = .ok (.freturn, 1) := by decide +kernel
theorem dX0_folded_0 : decode cX0_folded 0 = .ok (.dload_n 0, 1) := by decide +kernel
theorem dX0_folded_1 : decode cX0_folded 1 = .ok (.dconst 1, 1) := by decide +kernel
theorem dX0_folded_2 : decode cX0_folded 2 = .ok (.dcmp .l, 1) := by decide +kernel
theorem dX0_folded_3 : decode cX0_folded 3 = .ok (.ifCond .le 9, 3) := by decide +kernel
theorem dX0_folded_6 : decode cX0_folded 6 = .ok (.ldc2_w 23, 3) := by decide +kernel
theorem dX0_folded_9 : decode cX0_folded 9 = .ok (.dload_n 0, 1) := by decide +kernel
theorem dX0_folded_10 : decode cX0_folded 10 = .ok (.dsub, 1) := by decide +kernel
theorem dX0_folded_11 : decode cX0_folded 11 = .ok (.dreturn, 1) := by decide +kernel
theorem dX0_folded_12 : decode cX0_folded 12 = .ok (.dload_n 0, 1) := by decide +kernel
theorem dX0_folded_13 : decode cX0_folded 13 = .ok (.ldc2_w 36, 3) := by decide +kernel
theorem dX0_folded_16 : decode cX0_folded 16 = .ok (.dcmp .g, 1) := by decide +kernel
theorem dX0_folded_17 : decode cX0_folded 17 = .ok (.ifCond .ge 11, 3) := by decide +kernel
theorem dX0_folded_20 : decode cX0_folded 20 = .ok (.ldc2_w 38, 3) := by decide +kernel
theorem dX0_folded_23 : decode cX0_folded 23 = .ok (.dload_n 0, 1) := by decide +kernel
theorem dX0_folded_24 : decode cX0_folded 24 = .ok (.dsub, 1) := by decide +kernel
theorem dX0_folded_25 : decode cX0_folded 25 = .ok (.goto 4, 3) := by decide +kernel
theorem dX0_folded_28 : decode cX0_folded 28 = .ok (.dload_n 0, 1) := by decide +kernel
theorem dX0_folded_29 : decode cX0_folded 29 = .ok (.dreturn, 1) := by decide +kernel
theorem dX0_crushed_0 : decode cX0_crushed 0 = .ok (.aload_n 0, 1) := by decide +kernel
theorem dX0_crushed_1 : decode cX0_crushed 1 = .ok (.getfield 13, 3) := by decide +kernel
theorem dX0_crushed_4 : decode cX0_crushed 4 = .ok (.d2i, 1) := by decide +kernel
theorem dX0_crushed_5 : decode cX0_crushed 5 = .ok (.istore_n 3, 1) := by decide +kernel
theorem dX0_crushed_6 : decode cX0_crushed 6 = .ok (.iload_n 3, 1) := by decide +kernel
theorem dX0_crushed_7 : decode cX0_crushed 7 = .ok (.iconst 1, 1) := by decide +kernel
theorem dX0_crushed_8 : decode cX0_crushed 8 = .ok (.if_icmp .ge 7, 3) := by decide +kernel
theorem dX0_crushed_11 : decode cX0_crushed 11 = .ok (.dconst 1, 1) := by decide +kernel
theorem dX0_crushed_12 : decode cX0_crushed 12 = .ok (.goto 5, 3) := by decide +kernel
theorem dX0_crushed_15 : decode cX0_crushed 15 = .ok (.iload_n 3, 1) := by decide +kernel
theorem dX0_crushed_16 : decode cX0_crushed 16 = .ok (.i2d, 1) := by decide +kernel
theorem dX0_crushed_17 : decode cX0_crushed 17 = .ok (.dstore 4, 2) := by decide +kernel
theorem dX0_crushed_19 : decode cX0_crushed 19 = .ok (.dload_n 1, 1) := by decide +kernel
theorem dX0_crushed_20 : decode cX0_crushed 20 = .ok (.dload 4, 2) := by decide +kernel
theorem dX0_crushed_22 : decode cX0_crushed 22 = .ok (.dmul, 1) := by decide +kernel
theorem dX0_crushed_23 : decode cX0_crushed 23 = .ok (.d2l, 1) := by decide +kernel
theorem dX0_crushed_24 : decode cX0_crushed 24 = .ok (.l2d, 1) := by decide +kernel
theorem dX0_crushed_25 : decode cX0_crushed 25 = .ok (.dload 4, 2) := by decide +kernel
theorem dX0_crushed_27 : decode cX0_crushed 27 = .ok (.ddiv, 1) := by decide +kernel
theorem dX0_crushed_28 : decode cX0_crushed 28 = .ok (.dreturn, 1) := by decide +kernel
theorem dX1_init_0 : decode cX1_init 0 = .ok (.aload_n 0, 1) := by decide +kernel
theorem dX1_init_1 : decode cX1_init 1 = .ok (.invokespecial 1, 3) := by decide +kernel
theorem dX1_init_4 : decode cX1_init 4 = .ok (.aload_n 0, 1) := by decide +kernel
theorem dX1_init_5 : decode cX1_init 5 = .ok (.dconst 0, 1) := by decide +kernel
theorem dX1_init_6 : decode cX1_init 6 = .ok (.putfield 7, 3) := by decide +kernel
theorem dX1_init_9 : decode cX1_init 9 = .ok (.aload_n 0, 1) := by decide +kernel
theorem dX1_init_10 : decode cX1_init 10 = .ok (.lconst 0, 1) := by decide +kernel
theorem dX1_init_11 : decode cX1_init 11 = .ok (.putfield 13, 3) := by decide +kernel
theorem dX1_init_14 : decode cX1_init 14 = .ok (.aload_n 0, 1) := by decide +kernel
theorem dX1_init_15 : decode cX1_init 15 = .ok (.iload_n 1, 1) := by decide +kernel
theorem dX1_init_16 : decode cX1_init 16 = .ok (.putfield 17, 3) := by decide +kernel
theorem dX1_init_19 : decode cX1_init 19 = .ok (.aload_n 0, 1) := by decide +kernel
theorem dX1_init_20 : decode cX1_init 20 = .ok (.iload_n 2, 1) := by decide +kernel
theorem dX1_init_21 : decode cX1_init 21 = .ok (.putfield 21, 3) := by decide +kernel
theorem dX1_init_24 : decode cX1_init 24 = .ok (.aload_n 0, 1) := by decide +kernel
theorem dX1_init_25 : decode cX1_init 25 = .ok (.iload_n 3, 1) := by decide +kernel
theorem dX1_init_26 : decode cX1_init 26 = .ok (.putfield 24, 3) := by decide +kernel
theorem dX1_init_29 : decode cX1_init 29 = .ok (.aload_n 0, 1) := by decide +kernel
theorem dX1_init_30 : decode cX1_init 30 = .ok (.dload 4, 2) := by decide +kernel
theorem dX1_init_32 : decode cX1_init 32 = .ok (.putfield 27, 3) := by decide +kernel
theorem dX1_init_35 : decode cX1_init 35 = .ok (.return_, 1) := by decide +kernel
theorem dX1_moveOn_0 : decode cX1_moveOn 0 = .ok (.aload_n 0, 1) := by decide +kernel
theorem dX1_moveOn_1 : decode cX1_moveOn 1 = .ok (.getfield 7, 3) := by decide +kernel
theorem dX1_moveOn_4 : decode cX1_moveOn 4 = .ok (.aload_n 0, 1) := by decide +kernel
theorem dX1_moveOn_5 : decode cX1_moveOn 5 = .ok (.getfield 27, 3) := by decide +kernel
theorem dX1_moveOn_8 : decode cX1_moveOn 8 = .ok (.dadd, 1) := by decide +kernel
theorem dX1_moveOn_9 : decode cX1_moveOn 9 = .ok (.iload_n 1, 1) := by decide +kernel
theorem dX1_moveOn_10 : decode cX1_moveOn 10 = .ok (.i2d, 1) := by decide +kernel
theorem dX1_moveOn_11 : decode cX1_moveOn 11 = .ok (.invokestatic 30, 3) := by decide +kernel
theorem dX1_moveOn_14 : decode cX1_moveOn 14 = .ok (.dstore_n 2, 1) := by decide +kernel
theorem dX1_moveOn_15 : decode cX1_moveOn 15 = .ok (.dload_n 2, 1) := by decide +kernel
theorem dX1_moveOn_16 : decode cX1_moveOn 16 = .ok (.dconst 0, 1) := by decide +kernel
theorem dX1_moveOn_17 : decode cX1_moveOn 17 = .ok (.dcmp .g, 1) := by decide +kernel
theorem dX1_moveOn_18 : decode cX1_moveOn 18 = .ok (.ifCond .ge 17, 3) := by decide +kernel
theorem dX1_moveOn_21 : decode cX1_moveOn 21 = .ok (.dload_n 2, 1) := by decide +kernel
theorem dX1_moveOn_22 : decode cX1_moveOn 22 = .ok (.iload_n 1, 1) := by decide +kernel
theorem dX1_moveOn_23 : decode cX1_moveOn 23 = .ok (.i2d, 1) := by decide +kernel
theorem dX1_moveOn_24 : decode cX1_moveOn 24 = .ok (.dadd, 1) := by decide +kernel
theorem dX1_moveOn_25 : decode cX1_moveOn 25 = .ok (.dstore_n 2, 1) := by decide +kernel
theorem dX1_moveOn_26 : decode cX1_moveOn 26 = .ok (.dload_n 2, 1) := by decide +kernel
theorem dX1_moveOn_27 : decode cX1_moveOn 27 = .ok (.iload_n 1, 1) := by decide +kernel
theorem dX1_moveOn_28 : decode cX1_moveOn 28 = .ok (.i2d, 1) := by decide +kernel
theorem dX1_moveOn_29 : decode cX1_moveOn 29 = .ok (.dcmp .l, 1) := by decide +kernel
theorem dX1_moveOn_30 : decode cX1_moveOn 30 = .ok (.ifCond .lt 5, 3) := by decide +kernel
theorem dX1_moveOn_33 : decode cX1_moveOn 33 = .ok (.dconst 0, 1) := by decide +kernel
theorem dX1_moveOn_34 : decode cX1_moveOn 34 = .ok (.dstore_n 2, 1) := by decide +kernel
theorem dX1_moveOn_35 : decode cX1_moveOn 35 = .ok (.aload_n 0, 1) := by decide +kernel
theorem dX1_moveOn_36 : decode cX1_moveOn 36 = .ok (.dload_n 2, 1) := by decide +kernel
theorem dX1_moveOn_37 : decode cX1_moveOn 37 = .ok (.putfield 7, 3) := by decide +kernel
theorem dX1_moveOn_40 : decode cX1_moveOn 40 = .ok (.aload_n 0, 1) := by decide +kernel
theorem dX1_moveOn_41 : decode cX1_moveOn 41 = .ok (.dup, 1) := by decide +kernel
theorem dX1_moveOn_42 : decode cX1_moveOn 42 = .ok (.getfield 13, 3) := by decide +kernel
theorem dX1_moveOn_45 : decode cX1_moveOn 45 = .ok (.lconst 1, 1) := by decide +kernel
theorem dX1_moveOn_46 : decode cX1_moveOn 46 = .ok (.ladd, 1) := by decide +kernel
theorem dX1_moveOn_47 : decode cX1_moveOn 47 = .ok (.putfield 13, 3) := by decide +kernel
theorem dX1_moveOn_50 : decode cX1_moveOn 50 = .ok (.return_, 1) := by decide +kernel
theorem dX2_init_0 : decode cX2_init 0 = .ok (.aload_n 0, 1) := by decide +kernel
theorem dX2_init_1 : decode cX2_init 1 = .ok (.invokespecial 1, 3) := by decide +kernel
theorem dX2_init_4 : decode cX2_init 4 = .ok (.aload_n 0, 1) := by decide +kernel
theorem dX2_init_5 : decode cX2_init 5 = .ok (.bipush 10, 2) := by decide +kernel
theorem dX2_init_7 : decode cX2_init 7 = .ok (.newarray .double, 2) := by decide +kernel
theorem dX2_init_9 : decode cX2_init 9 = .ok (.putfield 9, 3) := by decide +kernel
theorem dX2_init_12 : decode cX2_init 12 = .ok (.aload_n 0, 1) := by decide +kernel
theorem dX2_init_13 : decode cX2_init 13 = .ok (.bipush 10, 2) := by decide +kernel
theorem dX2_init_15 : decode cX2_init 15 = .ok (.newarray .double, 2) := by decide +kernel
theorem dX2_init_17 : decode cX2_init 17 = .ok (.putfield 13, 3) := by decide +kernel
theorem dX2_init_20 : decode cX2_init 20 = .ok (.ldc2_w 16, 3) := by decide +kernel
theorem dX2_init_23 : decode cX2_init 23 = .ok (.dstore_n 1, 1) := by decide +kernel
theorem dX2_init_24 : decode cX2_init 24 = .ok (.iconst 0, 1) := by decide +kernel
theorem dX2_init_25 : decode cX2_init 25 = .ok (.istore_n 3, 1) := by decide +kernel
theorem dX2_init_26 : decode cX2_init 26 = .ok (.iload_n 3, 1) := by decide +kernel
theorem dX2_init_27 : decode cX2_init 27 = .ok (.bipush 10, 2) := by decide +kernel
theorem dX2_init_29 : decode cX2_init 29 = .ok (.if_icmp .ge 33, 3) := by decide +kernel
theorem dX2_init_32 : decode cX2_init 32 = .ok (.iload_n 3, 1) := by decide +kernel
theorem dX2_init_33 : decode cX2_init 33 = .ok (.ifCond .le 7, 3) := by decide +kernel
theorem dX2_init_36 : decode cX2_init 36 = .ok (.dload_n 1, 1) := by decide +kernel
theorem dX2_init_37 : decode cX2_init 37 = .ok (.dload_n 1, 1) := by decide +kernel
theorem dX2_init_38 : decode cX2_init 38 = .ok (.dmul, 1) := by decide +kernel
theorem dX2_init_39 : decode cX2_init 39 = .ok (.dstore_n 1, 1) := by decide +kernel
theorem dX2_init_40 : decode cX2_init 40 = .ok (.aload_n 0, 1) := by decide +kernel
theorem dX2_init_41 : decode cX2_init 41 = .ok (.getfield 9, 3) := by decide +kernel
theorem dX2_init_44 : decode cX2_init 44 = .ok (.iload_n 3, 1) := by decide +kernel
theorem dX2_init_45 : decode cX2_init 45 = .ok (.dload_n 1, 1) := by decide +kernel
theorem dX2_init_46 : decode cX2_init 46 = .ok (.dastore, 1) := by decide +kernel
theorem dX2_init_47 : decode cX2_init 47 = .ok (.aload_n 0, 1) := by decide +kernel
theorem dX2_init_48 : decode cX2_init 48 = .ok (.getfield 13, 3) := by decide +kernel
theorem dX2_init_51 : decode cX2_init 51 = .ok (.iload_n 3, 1) := by decide +kernel
theorem dX2_init_52 : decode cX2_init 52 = .ok (.dconst 1, 1) := by decide +kernel
theorem dX2_init_53 : decode cX2_init 53 = .ok (.dload_n 1, 1) := by decide +kernel
theorem dX2_init_54 : decode cX2_init 54 = .ok (.ddiv, 1) := by decide +kernel
theorem dX2_init_55 : decode cX2_init 55 = .ok (.dastore, 1) := by decide +kernel
theorem dX2_init_56 : decode cX2_init 56 = .ok (.iinc 3 1, 3) := by decide +kernel
theorem dX2_init_59 : decode cX2_init 59 = .ok (.goto (-33), 3) := by decide +kernel
theorem dX2_init_62 : decode cX2_init 62 = .ok (.return_, 1) := by decide +kernel
theorem dX2_isDouble_0 : decode cX2_isDouble 0 = .ok (.lload_n 0, 1) := by decide +kernel
theorem dX2_isDouble_1 : decode cX2_isDouble 1 = .ok (.ldc2_w 18, 3) := by decide +kernel
theorem dX2_isDouble_4 : decode cX2_isDouble 4 = .ok (.land, 1) := by decide +kernel
theorem dX2_isDouble_5 : decode cX2_isDouble 5 = .ok (.ldc2_w 18, 3) := by decide +kernel
theorem dX2_isDouble_8 : decode cX2_isDouble 8 = .ok (.lcmp, 1) := by decide +kernel
theorem dX2_isDouble_9 : decode cX2_isDouble 9 = .ok (.ifCond .eq 7, 3) := by decide +kernel
theorem dX2_isDouble_12 : decode cX2_isDouble 12 = .ok (.iconst 1, 1) := by decide +kernel
theorem dX2_isDouble_13 : decode cX2_isDouble 13 = .ok (.goto 4, 3) := by decide +kernel
theorem dX2_isDouble_16 : decode cX2_isDouble 16 = .ok (.iconst 0, 1) := by decide +kernel
theorem dX2_isDouble_17 : decode cX2_isDouble 17 = .ok (.ireturn, 1) := by decide +kernel
theorem dX2_isFloat_0 : decode cX2_isFloat 0 = .ok (.lload_n 0, 1) := by decide +kernel
theorem dX2_isFloat_1 : decode cX2_isFloat 1 = .ok (.ldc2_w 20, 3) := by decide +kernel
theorem dX2_isFloat_4 : decode cX2_isFloat 4 = .ok (.land, 1) := by decide +kernel
theorem dX2_isFloat_5 : decode cX2_isFloat 5 = .ok (.ldc2_w 20, 3) := by decide +kernel
theorem dX2_isFloat_8 : decode cX2_isFloat 8 = .ok (.lcmp, 1) := by decide +kernel
theorem dX2_isFloat_9 : decode cX2_isFloat 9 = .ok (.ifCond .eq 7, 3) := by decide +kernel
theorem dX2_isFloat_12 : decode cX2_isFloat 12 = .ok (.iconst 1, 1) := by decide +kernel
theorem dX2_isFloat_13 : decode cX2_isFloat 13 = .ok (.goto 4, 3) := by decide +kernel
theorem dX2_isFloat_16 : decode cX2_isFloat 16 = .ok (.iconst 0, 1) := by decide +kernel
theorem dX2_isFloat_17 : decode cX2_isFloat 17 = .ok (.ireturn, 1) := by decide +kernel
theorem dX2_held_0 : decode cX2_held 0 = .ok (.ldc2_w 22, 3) := by decide +kernel
theorem dX2_held_3 : decode cX2_held 3 = .ok (.dstore_n 2, 1) := by decide +kernel
theorem dX2_held_4 : decode cX2_held 4 = .ok (.dload_n 0, 1) := by decide +kernel
theorem dX2_held_5 : decode cX2_held 5 = .ok (.dload_n 2, 1) := by decide +kernel
theorem dX2_held_6 : decode cX2_held 6 = .ok (.dcmp .l, 1) := by decide +kernel
theorem dX2_held_7 : decode cX2_held 7 = .ok (.ifCond .le 6, 3) := by decide +kernel
theorem dX2_held_10 : decode cX2_held 10 = .ok (.dload_n 2, 1) := by decide +kernel
theorem dX2_held_11 : decode cX2_held 11 = .ok (.d2f, 1) := by decide +kernel
theorem dX2_held_12 : decode cX2_held 12 = .ok (.freturn, 1) := by decide +kernel
theorem dX2_held_13 : decode cX2_held 13 = .ok (.dload_n 0, 1) := by decide +kernel
theorem dX2_held_14 : decode cX2_held 14 = .ok (.dload_n 2, 1) := by decide +kernel
theorem dX2_held_15 : decode cX2_held 15 = .ok (.dneg, 1) := by decide +kernel
theorem dX2_held_16 : decode cX2_held 16 = .ok (.dcmp .g, 1) := by decide +kernel
theorem dX2_held_17 : decode cX2_held 17 = .ok (.ifCond .ge 9, 3) := by decide +kernel
theorem dX2_held_20 : decode cX2_held 20 = .ok (.dload_n 2, 1) := by decide +kernel
theorem dX2_held_21 : decode cX2_held 21 = .ok (.dneg, 1) := by decide +kernel
theorem dX2_held_22 : decode cX2_held 22 = .ok (.d2f, 1) := by decide +kernel
theorem dX2_held_23 : decode cX2_held 23 = .ok (.goto 5, 3) := by decide +kernel
theorem dX2_held_26 : decode cX2_held 26 = .ok (.dload_n 0, 1) := by decide +kernel
theorem dX2_held_27 : decode cX2_held 27 = .ok (.d2f, 1) := by decide +kernel
theorem dX2_held_28 : decode cX2_held 28 = .ok (.freturn, 1) := by decide +kernel
theorem dX2_rest_0 : decode cX2_rest 0 = .ok (.dload_n 2, 1) := by decide +kernel
theorem dX2_rest_1 : decode cX2_rest 1 = .ok (.invokestatic 24, 3) := by decide +kernel
theorem dX2_rest_4 : decode cX2_rest 4 = .ok (.dstore 4, 2) := by decide +kernel
theorem dX2_rest_6 : decode cX2_rest 6 = .ok (.dload_n 0, 1) := by decide +kernel
theorem dX2_rest_7 : decode cX2_rest 7 = .ok (.invokestatic 24, 3) := by decide +kernel
theorem dX2_rest_10 : decode cX2_rest 10 = .ok (.dstore 6, 2) := by decide +kernel
theorem dX2_rest_12 : decode cX2_rest 12 = .ok (.dload 4, 2) := by decide +kernel
theorem dX2_rest_14 : decode cX2_rest 14 = .ok (.dconst 0, 1) := by decide +kernel
theorem dX2_rest_15 : decode cX2_rest 15 = .ok (.dcmp .l, 1) := by decide +kernel
theorem dX2_rest_16 : decode cX2_rest 16 = .ok (.ifCond .eq 11, 3) := by decide +kernel
theorem dX2_rest_19 : decode cX2_rest 19 = .ok (.dload 6, 2) := by decide +kernel
theorem dX2_rest_21 : decode cX2_rest 21 = .ok (.dload 4, 2) := by decide +kernel
theorem dX2_rest_23 : decode cX2_rest 23 = .ok (.dcmp .g, 1) := by decide +kernel
theorem dX2_rest_24 : decode cX2_rest 24 = .ok (.ifCond .ge 5, 3) := by decide +kernel
theorem dX2_rest_27 : decode cX2_rest 27 = .ok (.dload_n 0, 1) := by decide +kernel
theorem dX2_rest_28 : decode cX2_rest 28 = .ok (.dreturn, 1) := by decide +kernel
theorem dX2_rest_29 : decode cX2_rest 29 = .ok (.dload 4, 2) := by decide +kernel
theorem dX2_rest_31 : decode cX2_rest 31 = .ok (.dstore 8, 2) := by decide +kernel
theorem dX2_rest_33 : decode cX2_rest 33 = .ok (.iconst 0, 1) := by decide +kernel
theorem dX2_rest_34 : decode cX2_rest 34 = .ok (.istore 10, 2) := by decide +kernel
theorem dX2_rest_36 : decode cX2_rest 36 = .ok (.iload 10, 2) := by decide +kernel
theorem dX2_rest_38 : decode cX2_rest 38 = .ok (.sipush 2100, 3) := by decide +kernel
theorem dX2_rest_41 : decode cX2_rest 41 = .ok (.if_icmp .ge 29, 3) := by decide +kernel
theorem dX2_rest_44 : decode cX2_rest 44 = .ok (.dload 8, 2) := by decide +kernel
theorem dX2_rest_46 : decode cX2_rest 46 = .ok (.dload 6, 2) := by decide +kernel
theorem dX2_rest_48 : decode cX2_rest 48 = .ok (.ldc2_w 16, 3) := by decide +kernel
theorem dX2_rest_51 : decode cX2_rest 51 = .ok (.ddiv, 1) := by decide +kernel
theorem dX2_rest_52 : decode cX2_rest 52 = .ok (.dcmp .g, 1) := by decide +kernel
theorem dX2_rest_53 : decode cX2_rest 53 = .ok (.ifCond .gt 17, 3) := by decide +kernel
theorem dX2_rest_56 : decode cX2_rest 56 = .ok (.dload 8, 2) := by decide +kernel
theorem dX2_rest_58 : decode cX2_rest 58 = .ok (.ldc2_w 16, 3) := by decide +kernel
theorem dX2_rest_61 : decode cX2_rest 61 = .ok (.dmul, 1) := by decide +kernel
theorem dX2_rest_62 : decode cX2_rest 62 = .ok (.dstore 8, 2) := by decide +kernel
theorem dX2_rest_64 : decode cX2_rest 64 = .ok (.iinc 10 1, 3) := by decide +kernel
theorem dX2_rest_67 : decode cX2_rest 67 = .ok (.goto (-31), 3) := by decide +kernel
theorem dX2_rest_70 : decode cX2_rest 70 = .ok (.iconst 0, 1) := by decide +kernel
theorem dX2_rest_71 : decode cX2_rest 71 = .ok (.istore 11, 2) := by decide +kernel
theorem dX2_rest_73 : decode cX2_rest 73 = .ok (.iload 11, 2) := by decide +kernel
theorem dX2_rest_75 : decode cX2_rest 75 = .ok (.iload 10, 2) := by decide +kernel
theorem dX2_rest_77 : decode cX2_rest 77 = .ok (.if_icmp .gt 32, 3) := by decide +kernel
theorem dX2_rest_80 : decode cX2_rest 80 = .ok (.dload 6, 2) := by decide +kernel
theorem dX2_rest_82 : decode cX2_rest 82 = .ok (.dload 8, 2) := by decide +kernel
theorem dX2_rest_84 : decode cX2_rest 84 = .ok (.dcmp .l, 1) := by decide +kernel
theorem dX2_rest_85 : decode cX2_rest 85 = .ok (.ifCond .lt 10, 3) := by decide +kernel
theorem dX2_rest_88 : decode cX2_rest 88 = .ok (.dload 6, 2) := by decide +kernel
theorem dX2_rest_90 : decode cX2_rest 90 = .ok (.dload 8, 2) := by decide +kernel
theorem dX2_rest_92 : decode cX2_rest 92 = .ok (.dsub, 1) := by decide +kernel
theorem dX2_rest_93 : decode cX2_rest 93 = .ok (.dstore 6, 2) := by decide +kernel
theorem dX2_rest_95 : decode cX2_rest 95 = .ok (.dload 8, 2) := by decide +kernel
theorem dX2_rest_97 : decode cX2_rest 97 = .ok (.ldc2_w 16, 3) := by decide +kernel
theorem dX2_rest_100 : decode cX2_rest 100 = .ok (.ddiv, 1) := by decide +kernel
theorem dX2_rest_101 : decode cX2_rest 101 = .ok (.dstore 8, 2) := by decide +kernel
theorem dX2_rest_103 : decode cX2_rest 103 = .ok (.iinc 11 1, 3) := by decide +kernel
theorem dX2_rest_106 : decode cX2_rest 106 = .ok (.goto (-33), 3) := by decide +kernel
theorem dX2_rest_109 : decode cX2_rest 109 = .ok (.dload_n 0, 1) := by decide +kernel
theorem dX2_rest_110 : decode cX2_rest 110 = .ok (.dconst 0, 1) := by decide +kernel
theorem dX2_rest_111 : decode cX2_rest 111 = .ok (.dcmp .g, 1) := by decide +kernel
theorem dX2_rest_112 : decode cX2_rest 112 = .ok (.ifCond .ge 9, 3) := by decide +kernel
theorem dX2_rest_115 : decode cX2_rest 115 = .ok (.dload 6, 2) := by decide +kernel
theorem dX2_rest_117 : decode cX2_rest 117 = .ok (.dneg, 1) := by decide +kernel
theorem dX2_rest_118 : decode cX2_rest 118 = .ok (.goto 5, 3) := by decide +kernel
theorem dX2_rest_121 : decode cX2_rest 121 = .ok (.dload 6, 2) := by decide +kernel
theorem dX2_rest_123 : decode cX2_rest 123 = .ok (.dreturn, 1) := by decide +kernel
theorem dX2_doubleOf_0 : decode cX2_doubleOf 0 = .ok (.aload_n 0, 1) := by decide +kernel
theorem dX2_doubleOf_1 : decode cX2_doubleOf 1 = .ok (.lload_n 1, 1) := by decide +kernel
theorem dX2_doubleOf_2 : decode cX2_doubleOf 2 = .ok (.ldc2_w 28, 3) := by decide +kernel
theorem dX2_doubleOf_5 : decode cX2_doubleOf 5 = .ok (.land, 1) := by decide +kernel
theorem dX2_doubleOf_6 : decode cX2_doubleOf 6 = .ok (.sipush 1022, 3) := by decide +kernel
theorem dX2_doubleOf_9 : decode cX2_doubleOf 9 = .ok (.bipush 52, 2) := by decide +kernel
theorem dX2_doubleOf_11 : decode cX2_doubleOf 11 = .ok (.invokevirtual 30, 3) := by decide +kernel
theorem dX2_doubleOf_14 : decode cX2_doubleOf 14 = .ok (.dstore_n 3, 1) := by decide +kernel
theorem dX2_doubleOf_15 : decode cX2_doubleOf 15 = .ok (.lload_n 1, 1) := by decide +kernel
theorem dX2_doubleOf_16 : decode cX2_doubleOf 16 = .ok (.ldc2_w 34, 3) := by decide +kernel
theorem dX2_doubleOf_19 : decode cX2_doubleOf 19 = .ok (.land, 1) := by decide +kernel
theorem dX2_doubleOf_20 : decode cX2_doubleOf 20 = .ok (.lconst 0, 1) := by decide +kernel
theorem dX2_doubleOf_21 : decode cX2_doubleOf 21 = .ok (.lcmp, 1) := by decide +kernel
theorem dX2_doubleOf_22 : decode cX2_doubleOf 22 = .ok (.ifCond .eq 8, 3) := by decide +kernel
theorem dX2_doubleOf_25 : decode cX2_doubleOf 25 = .ok (.dload_n 3, 1) := by decide +kernel
theorem dX2_doubleOf_26 : decode cX2_doubleOf 26 = .ok (.dneg, 1) := by decide +kernel
theorem dX2_doubleOf_27 : decode cX2_doubleOf 27 = .ok (.goto 4, 3) := by decide +kernel
theorem dX2_doubleOf_30 : decode cX2_doubleOf 30 = .ok (.dload_n 3, 1) := by decide +kernel
theorem dX2_doubleOf_31 : decode cX2_doubleOf 31 = .ok (.dreturn, 1) := by decide +kernel
theorem dX2_floatOf_0 : decode cX2_floatOf 0 = .ok (.aload_n 0, 1) := by decide +kernel
theorem dX2_floatOf_1 : decode cX2_floatOf 1 = .ok (.lload_n 1, 1) := by decide +kernel
theorem dX2_floatOf_2 : decode cX2_floatOf 2 = .ok (.ldc2_w 36, 3) := by decide +kernel
theorem dX2_floatOf_5 : decode cX2_floatOf 5 = .ok (.land, 1) := by decide +kernel
theorem dX2_floatOf_6 : decode cX2_floatOf 6 = .ok (.bipush 126, 2) := by decide +kernel
theorem dX2_floatOf_8 : decode cX2_floatOf 8 = .ok (.bipush 23, 2) := by decide +kernel
theorem dX2_floatOf_10 : decode cX2_floatOf 10 = .ok (.invokevirtual 30, 3) := by decide +kernel
theorem dX2_floatOf_13 : decode cX2_floatOf 13 = .ok (.dstore_n 3, 1) := by decide +kernel
theorem dX2_floatOf_14 : decode cX2_floatOf 14 = .ok (.lload_n 1, 1) := by decide +kernel
theorem dX2_floatOf_15 : decode cX2_floatOf 15 = .ok (.ldc2_w 38, 3) := by decide +kernel
theorem dX2_floatOf_18 : decode cX2_floatOf 18 = .ok (.land, 1) := by decide +kernel
theorem dX2_floatOf_19 : decode cX2_floatOf 19 = .ok (.lconst 0, 1) := by decide +kernel
theorem dX2_floatOf_20 : decode cX2_floatOf 20 = .ok (.lcmp, 1) := by decide +kernel
theorem dX2_floatOf_21 : decode cX2_floatOf 21 = .ok (.ifCond .eq 8, 3) := by decide +kernel
theorem dX2_floatOf_24 : decode cX2_floatOf 24 = .ok (.dload_n 3, 1) := by decide +kernel
theorem dX2_floatOf_25 : decode cX2_floatOf 25 = .ok (.dneg, 1) := by decide +kernel
theorem dX2_floatOf_26 : decode cX2_floatOf 26 = .ok (.goto 4, 3) := by decide +kernel
theorem dX2_floatOf_29 : decode cX2_floatOf 29 = .ok (.dload_n 3, 1) := by decide +kernel
theorem dX2_floatOf_30 : decode cX2_floatOf 30 = .ok (.d2f, 1) := by decide +kernel
theorem dX2_floatOf_31 : decode cX2_floatOf 31 = .ok (.freturn, 1) := by decide +kernel
theorem dX2_bitsOfDouble_0 : decode cX2_bitsOfDouble 0 = .ok (.aload_n 0, 1) := by decide +kernel
theorem dX2_bitsOfDouble_1 : decode cX2_bitsOfDouble 1 = .ok (.dload_n 1, 1) := by decide +kernel
theorem dX2_bitsOfDouble_2 : decode cX2_bitsOfDouble 2 = .ok (.invokestatic 24, 3) := by decide +kernel
theorem dX2_bitsOfDouble_5 : decode cX2_bitsOfDouble 5 = .ok (.sipush 1022, 3) := by decide +kernel
theorem dX2_bitsOfDouble_8 : decode cX2_bitsOfDouble 8 = .ok (.bipush 52, 2) := by decide +kernel
theorem dX2_bitsOfDouble_10 : decode cX2_bitsOfDouble 10 = .ok (.invokevirtual 40, 3) := by decide +kernel
theorem dX2_bitsOfDouble_13 : decode cX2_bitsOfDouble 13 = .ok (.lstore_n 3, 1) := by decide +kernel
theorem dX2_bitsOfDouble_14 : decode cX2_bitsOfDouble 14 = .ok (.dload_n 1, 1) := by decide +kernel
theorem dX2_bitsOfDouble_15 : decode cX2_bitsOfDouble 15 = .ok (.invokestatic 44, 3) := by decide +kernel
