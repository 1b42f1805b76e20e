theorem dX2_bitsOfDouble_18 : decode cX2_bitsOfDouble 18 = .ok (.ifCond .eq 11, 3) := by decide +kernel
theorem dX2_bitsOfDouble_21 : decode cX2_bitsOfDouble 21 = .ok (.lload_n 3, 1) := by decide +kernel
theorem dX2_bitsOfDouble_22 : decode cX2_bitsOfDouble 22 = .ok (.ldc2_w 34, 3) := by decide +kernel
theorem dX2_bitsOfDouble_25 : decode cX2_bitsOfDouble 25 = .ok (.lor, 1) := by decide +kernel
theorem dX2_bitsOfDouble_26 : decode cX2_bitsOfDouble 26 = .ok (.goto 4, 3) := by decide +kernel
theorem dX2_bitsOfDouble_29 : decode cX2_bitsOfDouble 29 = .ok (.lload_n 3, 1) := by decide +kernel
theorem dX2_bitsOfDouble_30 : decode cX2_bitsOfDouble 30 = .ok (.lreturn, 1) := by decide +kernel
theorem dX2_bitsOfFloat_0 : decode cX2_bitsOfFloat 0 = .ok (.aload_n 0, 1) := by decide +kernel
theorem dX2_bitsOfFloat_1 : decode cX2_bitsOfFloat 1 = .ok (.fload_n 1, 1) := by decide +kernel
theorem dX2_bitsOfFloat_2 : decode cX2_bitsOfFloat 2 = .ok (.f2d, 1) := by decide +kernel
theorem dX2_bitsOfFloat_3 : decode cX2_bitsOfFloat 3 = .ok (.invokestatic 24, 3) := by decide +kernel
theorem dX2_bitsOfFloat_6 : decode cX2_bitsOfFloat 6 = .ok (.bipush 126, 2) := by decide +kernel
theorem dX2_bitsOfFloat_8 : decode cX2_bitsOfFloat 8 = .ok (.bipush 23, 2) := by decide +kernel
theorem dX2_bitsOfFloat_10 : decode cX2_bitsOfFloat 10 = .ok (.invokevirtual 40, 3) := by decide +kernel
theorem dX2_bitsOfFloat_13 : decode cX2_bitsOfFloat 13 = .ok (.lstore_n 2, 1) := by decide +kernel
theorem dX2_bitsOfFloat_14 : decode cX2_bitsOfFloat 14 = .ok (.fload_n 1, 1) := by decide +kernel
theorem dX2_bitsOfFloat_15 : decode cX2_bitsOfFloat 15 = .ok (.f2d, 1) := by decide +kernel
theorem dX2_bitsOfFloat_16 : decode cX2_bitsOfFloat 16 = .ok (.invokestatic 44, 3) := by decide +kernel
theorem dX2_bitsOfFloat_19 : decode cX2_bitsOfFloat 19 = .ok (.ifCond .eq 11, 3) := by decide +kernel
theorem dX2_bitsOfFloat_22 : decode cX2_bitsOfFloat 22 = .ok (.lload_n 2, 1) := by decide +kernel
theorem dX2_bitsOfFloat_23 : decode cX2_bitsOfFloat 23 = .ok (.ldc2_w 38, 3) := by decide +kernel
theorem dX2_bitsOfFloat_26 : decode cX2_bitsOfFloat 26 = .ok (.lor, 1) := by decide +kernel
theorem dX2_bitsOfFloat_27 : decode cX2_bitsOfFloat 27 = .ok (.goto 4, 3) := by decide +kernel
theorem dX2_bitsOfFloat_30 : decode cX2_bitsOfFloat 30 = .ok (.lload_n 2, 1) := by decide +kernel
theorem dX2_bitsOfFloat_31 : decode cX2_bitsOfFloat 31 = .ok (.l2i, 1) := by decide +kernel
theorem dX2_bitsOfFloat_32 : decode cX2_bitsOfFloat 32 = .ok (.ireturn, 1) := by decide +kernel
theorem dX2_sizeOf_0 : decode cX2_sizeOf 0 = .ok (.dload_n 0, 1) := by decide +kernel
theorem dX2_sizeOf_1 : decode cX2_sizeOf 1 = .ok (.dconst 0, 1) := by decide +kernel
theorem dX2_sizeOf_2 : decode cX2_sizeOf 2 = .ok (.dcmp .g, 1) := by decide +kernel
theorem dX2_sizeOf_3 : decode cX2_sizeOf 3 = .ok (.ifCond .ge 8, 3) := by decide +kernel
theorem dX2_sizeOf_6 : decode cX2_sizeOf 6 = .ok (.dload_n 0, 1) := by decide +kernel
theorem dX2_sizeOf_7 : decode cX2_sizeOf 7 = .ok (.dneg, 1) := by decide +kernel
theorem dX2_sizeOf_8 : decode cX2_sizeOf 8 = .ok (.goto 4, 3) := by decide +kernel
theorem dX2_sizeOf_11 : decode cX2_sizeOf 11 = .ok (.dload_n 0, 1) := by decide +kernel
theorem dX2_sizeOf_12 : decode cX2_sizeOf 12 = .ok (.dreturn, 1) := by decide +kernel
theorem dX2_isSigned_0 : decode cX2_isSigned 0 = .ok (.dload_n 0, 1) := by decide +kernel
theorem dX2_isSigned_1 : decode cX2_isSigned 1 = .ok (.dconst 0, 1) := by decide +kernel
theorem dX2_isSigned_2 : decode cX2_isSigned 2 = .ok (.dcmp .g, 1) := by decide +kernel
theorem dX2_isSigned_3 : decode cX2_isSigned 3 = .ok (.ifCond .lt 17, 3) := by decide +kernel
theorem dX2_isSigned_6 : decode cX2_isSigned 6 = .ok (.dload_n 0, 1) := by decide +kernel
theorem dX2_isSigned_7 : decode cX2_isSigned 7 = .ok (.dconst 0, 1) := by decide +kernel
theorem dX2_isSigned_8 : decode cX2_isSigned 8 = .ok (.dcmp .l, 1) := by decide +kernel
theorem dX2_isSigned_9 : decode cX2_isSigned 9 = .ok (.ifCond .ne 15, 3) := by decide +kernel
theorem dX2_isSigned_12 : decode cX2_isSigned 12 = .ok (.dconst 1, 1) := by decide +kernel
theorem dX2_isSigned_13 : decode cX2_isSigned 13 = .ok (.dload_n 0, 1) := by decide +kernel
theorem dX2_isSigned_14 : decode cX2_isSigned 14 = .ok (.ddiv, 1) := by decide +kernel
theorem dX2_isSigned_15 : decode cX2_isSigned 15 = .ok (.dconst 0, 1) := by decide +kernel
theorem dX2_isSigned_16 : decode cX2_isSigned 16 = .ok (.dcmp .g, 1) := by decide +kernel
theorem dX2_isSigned_17 : decode cX2_isSigned 17 = .ok (.ifCond .ge 7, 3) := by decide +kernel
theorem dX2_isSigned_20 : decode cX2_isSigned 20 = .ok (.iconst 1, 1) := by decide +kernel
theorem dX2_isSigned_21 : decode cX2_isSigned 21 = .ok (.goto 4, 3) := by decide +kernel
theorem dX2_isSigned_24 : decode cX2_isSigned 24 = .ok (.iconst 0, 1) := by decide +kernel
theorem dX2_isSigned_25 : decode cX2_isSigned 25 = .ok (.ireturn, 1) := by decide +kernel
theorem dX2_sizeToldBy_0 : decode cX2_sizeToldBy 0 = .ok (.lconst 1, 1) := by decide +kernel
theorem dX2_sizeToldBy_1 : decode cX2_sizeToldBy 1 = .ok (.iload 4, 2) := by decide +kernel
theorem dX2_sizeToldBy_3 : decode cX2_sizeToldBy 3 = .ok (.lshl, 1) := by decide +kernel
theorem dX2_sizeToldBy_4 : decode cX2_sizeToldBy 4 = .ok (.lstore 5, 2) := by decide +kernel
theorem dX2_sizeToldBy_6 : decode cX2_sizeToldBy 6 = .ok (.lload_n 1, 1) := by decide +kernel
theorem dX2_sizeToldBy_7 : decode cX2_sizeToldBy 7 = .ok (.lload 5, 2) := by decide +kernel
theorem dX2_sizeToldBy_9 : decode cX2_sizeToldBy 9 = .ok (.lconst 1, 1) := by decide +kernel
theorem dX2_sizeToldBy_10 : decode cX2_sizeToldBy 10 = .ok (.lsub, 1) := by decide +kernel
theorem dX2_sizeToldBy_11 : decode cX2_sizeToldBy 11 = .ok (.land, 1) := by decide +kernel
theorem dX2_sizeToldBy_12 : decode cX2_sizeToldBy 12 = .ok (.lstore 7, 2) := by decide +kernel
theorem dX2_sizeToldBy_14 : decode cX2_sizeToldBy 14 = .ok (.lload_n 1, 1) := by decide +kernel
theorem dX2_sizeToldBy_15 : decode cX2_sizeToldBy 15 = .ok (.iload 4, 2) := by decide +kernel
theorem dX2_sizeToldBy_17 : decode cX2_sizeToldBy 17 = .ok (.lushr, 1) := by decide +kernel
theorem dX2_sizeToldBy_18 : decode cX2_sizeToldBy 18 = .ok (.l2i, 1) := by decide +kernel
theorem dX2_sizeToldBy_19 : decode cX2_sizeToldBy 19 = .ok (.istore 9, 2) := by decide +kernel
theorem dX2_sizeToldBy_21 : decode cX2_sizeToldBy 21 = .ok (.iload 9, 2) := by decide +kernel
theorem dX2_sizeToldBy_23 : decode cX2_sizeToldBy 23 = .ok (.ifCond .ne 16, 3) := by decide +kernel
theorem dX2_sizeToldBy_26 : decode cX2_sizeToldBy 26 = .ok (.aload_n 0, 1) := by decide +kernel
theorem dX2_sizeToldBy_27 : decode cX2_sizeToldBy 27 = .ok (.lload 7, 2) := by decide +kernel
theorem dX2_sizeToldBy_29 : decode cX2_sizeToldBy 29 = .ok (.l2d, 1) := by decide +kernel
theorem dX2_sizeToldBy_30 : decode cX2_sizeToldBy 30 = .ok (.iload_n 3, 1) := by decide +kernel
theorem dX2_sizeToldBy_31 : decode cX2_sizeToldBy 31 = .ok (.ineg, 1) := by decide +kernel
theorem dX2_sizeToldBy_32 : decode cX2_sizeToldBy 32 = .ok (.iload 4, 2) := by decide +kernel
theorem dX2_sizeToldBy_34 : decode cX2_sizeToldBy 34 = .ok (.isub, 1) := by decide +kernel
theorem dX2_sizeToldBy_35 : decode cX2_sizeToldBy 35 = .ok (.invokevirtual 48, 3) := by decide +kernel
theorem dX2_sizeToldBy_38 : decode cX2_sizeToldBy 38 = .ok (.dreturn, 1) := by decide +kernel
theorem dX2_sizeToldBy_39 : decode cX2_sizeToldBy 39 = .ok (.aload_n 0, 1) := by decide +kernel
theorem dX2_sizeToldBy_40 : decode cX2_sizeToldBy 40 = .ok (.lload 7, 2) := by decide +kernel
theorem dX2_sizeToldBy_42 : decode cX2_sizeToldBy 42 = .ok (.lload 5, 2) := by decide +kernel
theorem dX2_sizeToldBy_44 : decode cX2_sizeToldBy 44 = .ok (.ladd, 1) := by decide +kernel
theorem dX2_sizeToldBy_45 : decode cX2_sizeToldBy 45 = .ok (.l2d, 1) := by decide +kernel
theorem dX2_sizeToldBy_46 : decode cX2_sizeToldBy 46 = .ok (.iload 9, 2) := by decide +kernel
theorem dX2_sizeToldBy_48 : decode cX2_sizeToldBy 48 = .ok (.iconst 1, 1) := by decide +kernel
theorem dX2_sizeToldBy_49 : decode cX2_sizeToldBy 49 = .ok (.isub, 1) := by decide +kernel
theorem dX2_sizeToldBy_50 : decode cX2_sizeToldBy 50 = .ok (.iload_n 3, 1) := by decide +kernel
theorem dX2_sizeToldBy_51 : decode cX2_sizeToldBy 51 = .ok (.isub, 1) := by decide +kernel
theorem dX2_sizeToldBy_52 : decode cX2_sizeToldBy 52 = .ok (.iload 4, 2) := by decide +kernel
theorem dX2_sizeToldBy_54 : decode cX2_sizeToldBy 54 = .ok (.isub, 1) := by decide +kernel
theorem dX2_sizeToldBy_55 : decode cX2_sizeToldBy 55 = .ok (.invokevirtual 48, 3) := by decide +kernel
theorem dX2_sizeToldBy_58 : decode cX2_sizeToldBy 58 = .ok (.dreturn, 1) := by decide +kernel
theorem dX2_bitsOfSize_0 : decode cX2_bitsOfSize 0 = .ok (.dload_n 1, 1) := by decide +kernel
theorem dX2_bitsOfSize_1 : decode cX2_bitsOfSize 1 = .ok (.dstore 5, 2) := by decide +kernel
theorem dX2_bitsOfSize_3 : decode cX2_bitsOfSize 3 = .ok (.iload_n 3, 1) := by decide +kernel
theorem dX2_bitsOfSize_4 : decode cX2_bitsOfSize 4 = .ok (.i2l, 1) := by decide +kernel
theorem dX2_bitsOfSize_5 : decode cX2_bitsOfSize 5 = .ok (.lstore 7, 2) := by decide +kernel
theorem dX2_bitsOfSize_7 : decode cX2_bitsOfSize 7 = .ok (.dload 5, 2) := by decide +kernel
theorem dX2_bitsOfSize_9 : decode cX2_bitsOfSize 9 = .ok (.dconst 1, 1) := by decide +kernel
theorem dX2_bitsOfSize_10 : decode cX2_bitsOfSize 10 = .ok (.dcmp .g, 1) := by decide +kernel
theorem dX2_bitsOfSize_11 : decode cX2_bitsOfSize 11 = .ok (.ifCond .ge 16, 3) := by decide +kernel
theorem dX2_bitsOfSize_14 : decode cX2_bitsOfSize 14 = .ok (.dload 5, 2) := by decide +kernel
theorem dX2_bitsOfSize_16 : decode cX2_bitsOfSize 16 = .ok (.aload_n 0, 1) := by decide +kernel
theorem dX2_bitsOfSize_17 : decode cX2_bitsOfSize 17 = .ok (.iload_n 3, 1) := by decide +kernel
theorem dX2_bitsOfSize_18 : decode cX2_bitsOfSize 18 = .ok (.invokevirtual 52, 3) := by decide +kernel
theorem dX2_bitsOfSize_21 : decode cX2_bitsOfSize 21 = .ok (.dmul, 1) := by decide +kernel
theorem dX2_bitsOfSize_22 : decode cX2_bitsOfSize 22 = .ok (.dstore 5, 2) := by decide +kernel
theorem dX2_bitsOfSize_24 : decode cX2_bitsOfSize 24 = .ok (.lconst 0, 1) := by decide +kernel
theorem dX2_bitsOfSize_25 : decode cX2_bitsOfSize 25 = .ok (.lstore 7, 2) := by decide +kernel
theorem dX2_bitsOfSize_27 : decode cX2_bitsOfSize 27 = .ok (.bipush 9, 2) := by decide +kernel
theorem dX2_bitsOfSize_29 : decode cX2_bitsOfSize 29 = .ok (.istore 9, 2) := by decide +kernel
theorem dX2_bitsOfSize_31 : decode cX2_bitsOfSize 31 = .ok (.iload 9, 2) := by decide +kernel
theorem dX2_bitsOfSize_33 : decode cX2_bitsOfSize 33 = .ok (.ifCond .lt 43, 3) := by decide +kernel
theorem dX2_bitsOfSize_36 : decode cX2_bitsOfSize 36 = .ok (.dload 5, 2) := by decide +kernel
theorem dX2_bitsOfSize_38 : decode cX2_bitsOfSize 38 = .ok (.aload_n 0, 1) := by decide +kernel
theorem dX2_bitsOfSize_39 : decode cX2_bitsOfSize 39 = .ok (.getfield 9, 3) := by decide +kernel
theorem dX2_bitsOfSize_42 : decode cX2_bitsOfSize 42 = .ok (.iload 9, 2) := by decide +kernel
theorem dX2_bitsOfSize_44 : decode cX2_bitsOfSize 44 = .ok (.daload, 1) := by decide +kernel
theorem dX2_bitsOfSize_45 : decode cX2_bitsOfSize 45 = .ok (.dcmp .l, 1) := by decide +kernel
theorem dX2_bitsOfSize_46 : decode cX2_bitsOfSize 46 = .ok (.ifCond .lt 24, 3) := by decide +kernel
theorem dX2_bitsOfSize_49 : decode cX2_bitsOfSize 49 = .ok (.dload 5, 2) := by decide +kernel
theorem dX2_bitsOfSize_51 : decode cX2_bitsOfSize 51 = .ok (.aload_n 0, 1) := by decide +kernel
theorem dX2_bitsOfSize_52 : decode cX2_bitsOfSize 52 = .ok (.getfield 13, 3) := by decide +kernel
theorem dX2_bitsOfSize_55 : decode cX2_bitsOfSize 55 = .ok (.iload 9, 2) := by decide +kernel
theorem dX2_bitsOfSize_57 : decode cX2_bitsOfSize 57 = .ok (.daload, 1) := by decide +kernel
theorem dX2_bitsOfSize_58 : decode cX2_bitsOfSize 58 = .ok (.dmul, 1) := by decide +kernel
theorem dX2_bitsOfSize_59 : decode cX2_bitsOfSize 59 = .ok (.dstore 5, 2) := by decide +kernel
theorem dX2_bitsOfSize_61 : decode cX2_bitsOfSize 61 = .ok (.lload 7, 2) := by decide +kernel
theorem dX2_bitsOfSize_63 : decode cX2_bitsOfSize 63 = .ok (.lconst 1, 1) := by decide +kernel
theorem dX2_bitsOfSize_64 : decode cX2_bitsOfSize 64 = .ok (.iload 9, 2) := by decide +kernel
theorem dX2_bitsOfSize_66 : decode cX2_bitsOfSize 66 = .ok (.lshl, 1) := by decide +kernel
theorem dX2_bitsOfSize_67 : decode cX2_bitsOfSize 67 = .ok (.ladd, 1) := by decide +kernel
theorem dX2_bitsOfSize_68 : decode cX2_bitsOfSize 68 = .ok (.lstore 7, 2) := by decide +kernel
theorem dX2_bitsOfSize_70 : decode cX2_bitsOfSize 70 = .ok (.iinc 9 (-1), 3) := by decide +kernel
theorem dX2_bitsOfSize_73 : decode cX2_bitsOfSize 73 = .ok (.goto (-42), 3) := by decide +kernel
theorem dX2_bitsOfSize_76 : decode cX2_bitsOfSize 76 = .ok (.lload 7, 2) := by decide +kernel
theorem dX2_bitsOfSize_78 : decode cX2_bitsOfSize 78 = .ok (.iload 4, 2) := by decide +kernel
theorem dX2_bitsOfSize_80 : decode cX2_bitsOfSize 80 = .ok (.lshl, 1) := by decide +kernel
theorem dX2_bitsOfSize_81 : decode cX2_bitsOfSize 81 = .ok (.dload 5, 2) := by decide +kernel
theorem dX2_bitsOfSize_83 : decode cX2_bitsOfSize 83 = .ok (.aload_n 0, 1) := by decide +kernel
theorem dX2_bitsOfSize_84 : decode cX2_bitsOfSize 84 = .ok (.iload 4, 2) := by decide +kernel
theorem dX2_bitsOfSize_86 : decode cX2_bitsOfSize 86 = .ok (.invokevirtual 52, 3) := by decide +kernel
theorem dX2_bitsOfSize_89 : decode cX2_bitsOfSize 89 = .ok (.dmul, 1) := by decide +kernel
theorem dX2_bitsOfSize_90 : decode cX2_bitsOfSize 90 = .ok (.d2l, 1) := by decide +kernel
theorem dX2_bitsOfSize_91 : decode cX2_bitsOfSize 91 = .ok (.ladd, 1) := by decide +kernel
theorem dX2_bitsOfSize_92 : decode cX2_bitsOfSize 92 = .ok (.lreturn, 1) := by decide +kernel
theorem dX2_scaled_0 : decode cX2_scaled 0 = .ok (.iload_n 3, 1) := by decide +kernel
theorem dX2_scaled_1 : decode cX2_scaled 1 = .ok (.iconst 2, 1) := by decide +kernel
theorem dX2_scaled_2 : decode cX2_scaled 2 = .ok (.idiv, 1) := by decide +kernel
theorem dX2_scaled_3 : decode cX2_scaled 3 = .ok (.istore 4, 2) := by decide +kernel
theorem dX2_scaled_5 : decode cX2_scaled 5 = .ok (.dload_n 1, 1) := by decide +kernel
theorem dX2_scaled_6 : decode cX2_scaled 6 = .ok (.aload_n 0, 1) := by decide +kernel
theorem dX2_scaled_7 : decode cX2_scaled 7 = .ok (.iload 4, 2) := by decide +kernel
theorem dX2_scaled_9 : decode cX2_scaled 9 = .ok (.invokevirtual 52, 3) := by decide +kernel
theorem dX2_scaled_12 : decode cX2_scaled 12 = .ok (.dmul, 1) := by decide +kernel
theorem dX2_scaled_13 : decode cX2_scaled 13 = .ok (.aload_n 0, 1) := by decide +kernel
theorem dX2_scaled_14 : decode cX2_scaled 14 = .ok (.iload_n 3, 1) := by decide +kernel
theorem dX2_scaled_15 : decode cX2_scaled 15 = .ok (.iload 4, 2) := by decide +kernel
theorem dX2_scaled_17 : decode cX2_scaled 17 = .ok (.isub, 1) := by decide +kernel
theorem dX2_scaled_18 : decode cX2_scaled 18 = .ok (.invokevirtual 52, 3) := by decide +kernel
theorem dX2_scaled_21 : decode cX2_scaled 21 = .ok (.dmul, 1) := by decide +kernel
theorem dX2_scaled_22 : decode cX2_scaled 22 = .ok (.dreturn, 1) := by decide +kernel
theorem dX2_powerOfTwo_0 : decode cX2_powerOfTwo 0 = .ok (.iload_n 1, 1) := by decide +kernel
theorem dX2_powerOfTwo_1 : decode cX2_powerOfTwo 1 = .ok (.ifCond .ge 10, 3) := by decide +kernel
theorem dX2_powerOfTwo_4 : decode cX2_powerOfTwo 4 = .ok (.aload_n 0, 1) := by decide +kernel
theorem dX2_powerOfTwo_5 : decode cX2_powerOfTwo 5 = .ok (.getfield 13, 3) := by decide +kernel
theorem dX2_powerOfTwo_8 : decode cX2_powerOfTwo 8 = .ok (.goto 7, 3) := by decide +kernel
theorem dX2_powerOfTwo_11 : decode cX2_powerOfTwo 11 = .ok (.aload_n 0, 1) := by decide +kernel
theorem dX2_powerOfTwo_12 : decode cX2_powerOfTwo 12 = .ok (.getfield 9, 3) := by decide +kernel
theorem dX2_powerOfTwo_15 : decode cX2_powerOfTwo 15 = .ok (.astore_n 2, 1) := by decide +kernel
theorem dX2_powerOfTwo_16 : decode cX2_powerOfTwo 16 = .ok (.iload_n 1, 1) := by decide +kernel
theorem dX2_powerOfTwo_17 : decode cX2_powerOfTwo 17 = .ok (.invokestatic 56, 3) := by decide +kernel
theorem dX2_powerOfTwo_20 : decode cX2_powerOfTwo 20 = .ok (.istore_n 3, 1) := by decide +kernel
theorem dX2_powerOfTwo_21 : decode cX2_powerOfTwo 21 = .ok (.dconst 1, 1) := by decide +kernel
theorem dX2_powerOfTwo_22 : decode cX2_powerOfTwo 22 = .ok (.dstore 4, 2) := by decide +kernel
theorem dX2_powerOfTwo_24 : decode cX2_powerOfTwo 24 = .ok (.iconst 0, 1) := by decide +kernel
theorem dX2_powerOfTwo_25 : decode cX2_powerOfTwo 25 = .ok (.istore 6, 2) := by decide +kernel
theorem dX2_powerOfTwo_27 : decode cX2_powerOfTwo 27 = .ok (.iload 6, 2) := by decide +kernel
theorem dX2_powerOfTwo_29 : decode cX2_powerOfTwo 29 = .ok (.bipush 10, 2) := by decide +kernel
theorem dX2_powerOfTwo_31 : decode cX2_powerOfTwo 31 = .ok (.if_icmp .ge 27, 3) := by decide +kernel
theorem dX2_powerOfTwo_34 : decode cX2_powerOfTwo 34 = .ok (.iload_n 3, 1) := by decide +kernel
theorem dX2_powerOfTwo_35 : decode cX2_powerOfTwo 35 = .ok (.iload 6, 2) := by decide +kernel
theorem dX2_powerOfTwo_37 : decode cX2_powerOfTwo 37 = .ok (.ishr, 1) := by decide +kernel
theorem dX2_powerOfTwo_38 : decode cX2_powerOfTwo 38 = .ok (.iconst 1, 1) := by decide +kernel
theorem dX2_powerOfTwo_39 : decode cX2_powerOfTwo 39 = .ok (.iand, 1) := by decide +kernel
theorem dX2_powerOfTwo_40 : decode cX2_powerOfTwo 40 = .ok (.ifCond .eq 12, 3) := by decide +kernel
theorem dX2_powerOfTwo_43 : decode cX2_powerOfTwo 43 = .ok (.dload 4, 2) := by decide +kernel
theorem dX2_powerOfTwo_45 : decode cX2_powerOfTwo 45 = .ok (.aload_n 2, 1) := by decide +kernel
theorem dX2_powerOfTwo_46 : decode cX2_powerOfTwo 46 = .ok (.iload 6, 2) := by decide +kernel
theorem dX2_powerOfTwo_48 : decode cX2_powerOfTwo 48 = .ok (.daload, 1) := by decide +kernel
theorem dX2_powerOfTwo_49 : decode cX2_powerOfTwo 49 = .ok (.dmul, 1) := by decide +kernel
theorem dX2_powerOfTwo_50 : decode cX2_powerOfTwo 50 = .ok (.dstore 4, 2) := by decide +kernel
theorem dX2_powerOfTwo_52 : decode cX2_powerOfTwo 52 = .ok (.iinc 6 1, 3) := by decide +kernel
theorem dX2_powerOfTwo_55 : decode cX2_powerOfTwo 55 = .ok (.goto (-28), 3) := by decide +kernel
theorem dX2_powerOfTwo_58 : decode cX2_powerOfTwo 58 = .ok (.dload 4, 2) := by decide +kernel
theorem dX2_powerOfTwo_60 : decode cX2_powerOfTwo 60 = .ok (.dreturn, 1) := by decide +kernel
theorem dX3_init_0 : decode cX3_init 0 = .ok (.aload_n 0, 1) := by decide +kernel
theorem dX3_init_1 : decode cX3_init 1 = .ok (.invokespecial 1, 3) := by decide +kernel
theorem dX3_init_4 : decode cX3_init 4 = .ok (.aload_n 0, 1) := by decide +kernel
theorem dX3_init_5 : decode cX3_init 5 = .ok (.iconst 3, 1) := by decide +kernel
theorem dX3_init_6 : decode cX3_init 6 = .ok (.anewarray 9, 3) := by decide +kernel
theorem dX3_init_9 : decode cX3_init 9 = .ok (.putfield 11, 3) := by decide +kernel
theorem dX3_init_12 : decode cX3_init 12 = .ok (.aload_n 0, 1) := by decide +kernel
theorem dX3_init_13 : decode cX3_init 13 = .ok (.iload_n 1, 1) := by decide +kernel
theorem dX3_init_14 : decode cX3_init 14 = .ok (.putfield 15, 3) := by decide +kernel
theorem dX3_init_17 : decode cX3_init 17 = .ok (.return_, 1) := by decide +kernel
theorem dX3_hasBarePlace_0 : decode cX3_hasBarePlace 0 = .ok (.iconst 0, 1) := by decide +kernel
theorem dX3_hasBarePlace_1 : decode cX3_hasBarePlace 1 = .ok (.istore_n 1, 1) := by decide +kernel
theorem dX3_hasBarePlace_2 : decode cX3_hasBarePlace 2 = .ok (.iload_n 1, 1) := by decide +kernel
theorem dX3_hasBarePlace_3 : decode cX3_hasBarePlace 3 = .ok (.iconst 3, 1) := by decide +kernel
theorem dX3_hasBarePlace_4 : decode cX3_hasBarePlace 4 = .ok (.if_icmp .ge 20, 3) := by decide +kernel
theorem dX3_hasBarePlace_7 : decode cX3_hasBarePlace 7 = .ok (.aload_n 0, 1) := by decide +kernel
theorem dX3_hasBarePlace_8 : decode cX3_hasBarePlace 8 = .ok (.getfield 11, 3) := by decide +kernel
theorem dX3_hasBarePlace_11 : decode cX3_hasBarePlace 11 = .ok (.iload_n 1, 1) := by decide +kernel
theorem dX3_hasBarePlace_12 : decode cX3_hasBarePlace 12 = .ok (.aaload, 1) := by decide +kernel
theorem dX3_hasBarePlace_13 : decode cX3_hasBarePlace 13 = .ok (.ifnonnull 5, 3) := by decide +kernel
theorem dX3_hasBarePlace_16 : decode cX3_hasBarePlace 16 = .ok (.iconst 1, 1) := by decide +kernel
theorem dX3_hasBarePlace_17 : decode cX3_hasBarePlace 17 = .ok (.ireturn, 1) := by decide +kernel
theorem dX3_hasBarePlace_18 : decode cX3_hasBarePlace 18 = .ok (.iinc 1 1, 3) := by decide +kernel
theorem dX3_hasBarePlace_21 : decode cX3_hasBarePlace 21 = .ok (.goto (-19), 3) := by decide +kernel
theorem dX3_hasBarePlace_24 : decode cX3_hasBarePlace 24 = .ok (.iconst 0, 1) := by decide +kernel
theorem dX3_hasBarePlace_25 : decode cX3_hasBarePlace 25 = .ok (.ireturn, 1) := by decide +kernel
theorem dX3_madeOf_0 : decode cX3_madeOf 0 = .ok (.dload_n 1, 1) := by decide +kernel
theorem dX3_madeOf_1 : decode cX3_madeOf 1 = .ok (.dstore_n 3, 1) := by decide +kernel
theorem dX3_madeOf_2 : decode cX3_madeOf 2 = .ok (.iconst 0, 1) := by decide +kernel
theorem dX3_madeOf_3 : decode cX3_madeOf 3 = .ok (.istore 5, 2) := by decide +kernel
theorem dX3_madeOf_5 : decode cX3_madeOf 5 = .ok (.iload 5, 2) := by decide +kernel
theorem dX3_madeOf_7 : decode cX3_madeOf 7 = .ok (.iconst 3, 1) := by decide +kernel
theorem dX3_madeOf_8 : decode cX3_madeOf 8 = .ok (.if_icmp .ge 31, 3) := by decide +kernel
theorem dX3_madeOf_11 : decode cX3_madeOf 11 = .ok (.aload_n 0, 1) := by decide +kernel
theorem dX3_madeOf_12 : decode cX3_madeOf 12 = .ok (.getfield 11, 3) := by decide +kernel
theorem dX3_madeOf_15 : decode cX3_madeOf 15 = .ok (.iload 5, 2) := by decide +kernel
theorem dX3_madeOf_17 : decode cX3_madeOf 17 = .ok (.aaload, 1) := by decide +kernel
theorem dX3_madeOf_18 : decode cX3_madeOf 18 = .ok (.astore 6, 2) := by decide +kernel
theorem dX3_madeOf_20 : decode cX3_madeOf 20 = .ok (.aload 6, 2) := by decide +kernel
theorem dX3_madeOf_22 : decode cX3_madeOf 22 = .ok (.ifnull 11, 3) := by decide +kernel
theorem dX3_madeOf_25 : decode cX3_madeOf 25 = .ok (.aload 6, 2) := by decide +kernel
theorem dX3_madeOf_27 : decode cX3_madeOf 27 = .ok (.dload_n 3, 1) := by decide +kernel
theorem dX3_madeOf_28 : decode cX3_madeOf 28 = .ok (.invokevirtual 19, 3) := by decide +kernel
theorem dX3_madeOf_31 : decode cX3_madeOf 31 = .ok (.f2d, 1) := by decide +kernel
theorem dX3_madeOf_32 : decode cX3_madeOf 32 = .ok (.dstore_n 3, 1) := by decide +kernel
theorem dX3_madeOf_33 : decode cX3_madeOf 33 = .ok (.iinc 5 1, 3) := by decide +kernel
theorem dX3_madeOf_36 : decode cX3_madeOf 36 = .ok (.goto (-31), 3) := by decide +kernel
theorem dX3_madeOf_39 : decode cX3_madeOf 39 = .ok (.dload_n 3, 1) := by decide +kernel
theorem dX3_madeOf_40 : decode cX3_madeOf 40 = .ok (.dreturn, 1) := by decide +kernel
theorem dX4_init_0 : decode cX4_init 0 = .ok (.aload_n 0, 1) := by decide +kernel
theorem dX4_init_1 : decode cX4_init 1 = .ok (.invokespecial 1, 3) := by decide +kernel
theorem dX4_init_4 : decode cX4_init 4 = .ok (.aload_n 0, 1) := by decide +kernel
theorem dX4_init_5 : decode cX4_init 5 = .ok (.new 7, 3) := by decide +kernel
theorem dX4_init_8 : decode cX4_init 8 = .ok (.dup, 1) := by decide +kernel
theorem dX4_init_9 : decode cX4_init 9 = .ok (.invokespecial 9, 3) := by decide +kernel
theorem dX4_init_12 : decode cX4_init 12 = .ok (.putfield 10, 3) := by decide +kernel
theorem dX4_init_15 : decode cX4_init 15 = .ok (.aload_n 0, 1) := by decide +kernel
theorem dX4_init_16 : decode cX4_init 16 = .ok (.bipush 6, 2) := by decide +kernel
theorem dX4_init_18 : decode cX4_init 18 = .ok (.anewarray 16, 3) := by decide +kernel
theorem dX4_init_21 : decode cX4_init 21 = .ok (.putfield 18, 3) := by decide +kernel
theorem dX4_init_24 : decode cX4_init 24 = .ok (.aload_n 0, 1) := by decide +kernel
theorem dX4_init_25 : decode cX4_init 25 = .ok (.bipush 6, 2) := by decide +kernel
theorem dX4_init_27 : decode cX4_init 27 = .ok (.anewarray 16, 3) := by decide +kernel
theorem dX4_init_30 : decode cX4_init 30 = .ok (.putfield 22, 3) := by decide +kernel
theorem dX4_init_33 : decode cX4_init 33 = .ok (.aload_n 0, 1) := by decide +kernel
theorem dX4_init_34 : decode cX4_init 34 = .ok (.bipush 6, 2) := by decide +kernel
theorem dX4_init_36 : decode cX4_init 36 = .ok (.anewarray 25, 3) := by decide +kernel
theorem dX4_init_39 : decode cX4_init 39 = .ok (.putfield 27, 3) := by decide +kernel
theorem dX4_init_42 : decode cX4_init 42 = .ok (.aload_n 0, 1) := by decide +kernel
theorem dX4_init_43 : decode cX4_init 43 = .ok (.iconst 3, 1) := by decide +kernel
theorem dX4_init_44 : decode cX4_init 44 = .ok (.anewarray 31, 3) := by decide +kernel
theorem dX4_init_47 : decode cX4_init 47 = .ok (.putfield 33, 3) := by decide +kernel
theorem dX4_init_50 : decode cX4_init 50 = .ok (.aload_n 0, 1) := by decide +kernel
theorem dX4_init_51 : decode cX4_init 51 = .ok (.iconst 4, 1) := by decide +kernel
theorem dX4_init_52 : decode cX4_init 52 = .ok (.anewarray 37, 3) := by decide +kernel
theorem dX4_init_55 : decode cX4_init 55 = .ok (.putfield 39, 3) := by decide +kernel
theorem dX4_init_58 : decode cX4_init 58 = .ok (.aload_n 0, 1) := by decide +kernel
theorem dX4_init_59 : decode cX4_init 59 = .ok (.bipush 8, 2) := by decide +kernel
theorem dX4_init_61 : decode cX4_init 61 = .ok (.newarray .float, 2) := by decide +kernel
theorem dX4_init_63 : decode cX4_init 63 = .ok (.putfield 43, 3) := by decide +kernel
theorem dX4_init_66 : decode cX4_init 66 = .ok (.aload_n 0, 1) := by decide +kernel
theorem dX4_init_67 : decode cX4_init 67 = .ok (.iconst 0, 1) := by decide +kernel
theorem dX4_init_68 : decode cX4_init 68 = .ok (.putfield 47, 3) := by decide +kernel
theorem dX4_init_71 : decode cX4_init 71 = .ok (.aload_n 0, 1) := by decide +kernel
theorem dX4_init_72 : decode cX4_init 72 = .ok (.lconst 0, 1) := by decide +kernel
theorem dX4_init_73 : decode cX4_init 73 = .ok (.putfield 51, 3) := by decide +kernel
theorem dX4_init_76 : decode cX4_init 76 = .ok (.aload_n 0, 1) := by decide +kernel
theorem dX4_init_77 : decode cX4_init 77 = .ok (.lconst 0, 1) := by decide +kernel
theorem dX4_init_78 : decode cX4_init 78 = .ok (.putfield 55, 3) := by decide +kernel
theorem dX4_init_81 : decode cX4_init 81 = .ok (.return_, 1) := by decide +kernel
theorem dX4_row_0 : decode cX4_row 0 = .ok (.iload_n 2, 1) := by decide +kernel
theorem dX4_row_1 : decode cX4_row 1 = .ok (.bipush 6, 2) := by decide +kernel
theorem dX4_row_3 : decode cX4_row 3 = .ok (.invokestatic 58, 3) := by decide +kernel
theorem dX4_row_6 : decode cX4_row 6 = .ok (.ifCond .eq 12, 3) := by decide +kernel
theorem dX4_row_9 : decode cX4_row 9 = .ok (.iload_n 3, 1) := by decide +kernel
theorem dX4_row_10 : decode cX4_row 10 = .ok (.bipush 17, 2) := by decide +kernel
theorem dX4_row_12 : decode cX4_row 12 = .ok (.invokestatic 58, 3) := by decide +kernel
theorem dX4_row_15 : decode cX4_row 15 = .ok (.ifCond .ne 5, 3) := by decide +kernel
theorem dX4_row_18 : decode cX4_row 18 = .ok (.iconst (-1), 1) := by decide +kernel
theorem dX4_row_19 : decode cX4_row 19 = .ok (.ireturn, 1) := by decide +kernel
theorem dX4_row_20 : decode cX4_row 20 = .ok (.aload_n 0, 1) := by decide +kernel
theorem dX4_row_21 : decode cX4_row 21 = .ok (.iload_n 1, 1) := by decide +kernel
theorem dX4_row_22 : decode cX4_row 22 = .ok (.invokevirtual 62, 3) := by decide +kernel
theorem dX4_row_25 : decode cX4_row 25 = .ok (.iload_n 2, 1) := by decide +kernel
theorem dX4_row_26 : decode cX4_row 26 = .ok (.iload_n 3, 1) := by decide +kernel
theorem dX4_row_27 : decode cX4_row 27 = .ok (.newarray .double, 2) := by decide +kernel
theorem dX4_row_29 : decode cX4_row 29 = .ok (.aastore, 1) := by decide +kernel
theorem dX4_row_30 : decode cX4_row 30 = .ok (.iconst 1, 1) := by decide +kernel
theorem dX4_row_31 : decode cX4_row 31 = .ok (.ireturn, 1) := by decide +kernel
theorem dX4_share_0 : decode cX4_share 0 = .ok (.iload_n 2, 1) := by decide +kernel
theorem dX4_share_1 : decode cX4_share 1 = .ok (.bipush 6, 2) := by decide +kernel
theorem dX4_share_3 : decode cX4_share 3 = .ok (.invokestatic 58, 3) := by decide +kernel
theorem dX4_share_6 : decode cX4_share 6 = .ok (.ifCond .eq 12, 3) := by decide +kernel
theorem dX4_share_9 : decode cX4_share 9 = .ok (.iload_n 3, 1) := by decide +kernel
theorem dX4_share_10 : decode cX4_share 10 = .ok (.bipush 6, 2) := by decide +kernel
theorem dX4_share_12 : decode cX4_share 12 = .ok (.invokestatic 58, 3) := by decide +kernel
theorem dX4_share_15 : decode cX4_share 15 = .ok (.ifCond .ne 5, 3) := by decide +kernel
theorem dX4_share_18 : decode cX4_share 18 = .ok (.iconst (-1), 1) := by decide +kernel
theorem dX4_share_19 : decode cX4_share 19 = .ok (.ireturn, 1) := by decide +kernel
theorem dX4_share_20 : decode cX4_share 20 = .ok (.aload_n 0, 1) := by decide +kernel
theorem dX4_share_21 : decode cX4_share 21 = .ok (.iload_n 1, 1) := by decide +kernel
theorem dX4_share_22 : decode cX4_share 22 = .ok (.invokevirtual 62, 3) := by decide +kernel
theorem dX4_share_25 : decode cX4_share 25 = .ok (.astore 4, 2) := by decide +kernel
theorem dX4_share_27 : decode cX4_share 27 = .ok (.aload 4, 2) := by decide +kernel
theorem dX4_share_29 : decode cX4_share 29 = .ok (.iload_n 3, 1) := by decide +kernel
theorem dX4_share_30 : decode cX4_share 30 = .ok (.aload 4, 2) := by decide +kernel
theorem dX4_share_32 : decode cX4_share 32 = .ok (.iload_n 2, 1) := by decide +kernel
theorem dX4_share_33 : decode cX4_share 33 = .ok (.aaload, 1) := by decide +kernel
theorem dX4_share_34 : decode cX4_share 34 = .ok (.aastore, 1) := by decide +kernel
theorem dX4_share_35 : decode cX4_share 35 = .ok (.aload 4, 2) := by decide +kernel
theorem dX4_share_37 : decode cX4_share 37 = .ok (.iload_n 3, 1) := by decide +kernel
theorem dX4_share_38 : decode cX4_share 38 = .ok (.aaload, 1) := by decide +kernel
theorem dX4_share_39 : decode cX4_share 39 = .ok (.ifnull 7, 3) := by decide +kernel
