theorem dX12_nameOctets_8 : decode cX12_nameOctets 8 = .ok (.if_icmp .ge 21, 3) := by decide +kernel
theorem dX12_nameOctets_11 : decode cX12_nameOctets 11 = .ok (.iload_n 3, 1) := by decide +kernel
theorem dX12_nameOctets_12 : decode cX12_nameOctets 12 = .ok (.aload_n 0, 1) := by decide +kernel
theorem dX12_nameOctets_13 : decode cX12_nameOctets 13 = .ok (.iload_n 1, 1) := by decide +kernel
theorem dX12_nameOctets_14 : decode cX12_nameOctets 14 = .ok (.iload 4, 2) := by decide +kernel
theorem dX12_nameOctets_16 : decode cX12_nameOctets 16 = .ok (.iadd, 1) := by decide +kernel
theorem dX12_nameOctets_17 : decode cX12_nameOctets 17 = .ok (.laload, 1) := by decide +kernel
theorem dX12_nameOctets_18 : decode cX12_nameOctets 18 = .ok (.invokestatic 349, 3) := by decide +kernel
theorem dX12_nameOctets_21 : decode cX12_nameOctets 21 = .ok (.iadd, 1) := by decide +kernel
theorem dX12_nameOctets_22 : decode cX12_nameOctets 22 = .ok (.istore_n 3, 1) := by decide +kernel
theorem dX12_nameOctets_23 : decode cX12_nameOctets 23 = .ok (.iinc 4 1, 3) := by decide +kernel
theorem dX12_nameOctets_26 : decode cX12_nameOctets 26 = .ok (.goto (-21), 3) := by decide +kernel
theorem dX12_nameOctets_29 : decode cX12_nameOctets 29 = .ok (.iload_n 3, 1) := by decide +kernel
theorem dX12_nameOctets_30 : decode cX12_nameOctets 30 = .ok (.ireturn, 1) := by decide +kernel
theorem dX12_valueOctets_0 : decode cX12_valueOctets 0 = .ok (.aload_n 0, 1) := by decide +kernel
theorem dX12_valueOctets_1 : decode cX12_valueOctets 1 = .ok (.getfield 107, 3) := by decide +kernel
theorem dX12_valueOctets_4 : decode cX12_valueOctets 4 = .ok (.iload_n 1, 1) := by decide +kernel
theorem dX12_valueOctets_5 : decode cX12_valueOctets 5 = .ok (.iaload, 1) := by decide +kernel
theorem dX12_valueOctets_6 : decode cX12_valueOctets 6 = .ok (.istore_n 2, 1) := by decide +kernel
theorem dX12_valueOctets_7 : decode cX12_valueOctets 7 = .ok (.iload_n 2, 1) := by decide +kernel
theorem dX12_valueOctets_8 : decode cX12_valueOctets 8 = .ok (.iconst 5, 1) := by decide +kernel
theorem dX12_valueOctets_9 : decode cX12_valueOctets 9 = .ok (.if_icmp .eq 9, 3) := by decide +kernel
theorem dX12_valueOctets_12 : decode cX12_valueOctets 12 = .ok (.iload_n 2, 1) := by decide +kernel
theorem dX12_valueOctets_13 : decode cX12_valueOctets 13 = .ok (.bipush 127, 2) := by decide +kernel
theorem dX12_valueOctets_15 : decode cX12_valueOctets 15 = .ok (.if_icmp .le 7, 3) := by decide +kernel
theorem dX12_valueOctets_18 : decode cX12_valueOctets 18 = .ok (.iconst 0, 1) := by decide +kernel
theorem dX12_valueOctets_19 : decode cX12_valueOctets 19 = .ok (.goto 73, 3) := by decide +kernel
theorem dX12_valueOctets_22 : decode cX12_valueOctets 22 = .ok (.iload_n 2, 1) := by decide +kernel
theorem dX12_valueOctets_23 : decode cX12_valueOctets 23 = .ok (.iconst 4, 1) := by decide +kernel
theorem dX12_valueOctets_24 : decode cX12_valueOctets 24 = .ok (.if_icmp .ne 12, 3) := by decide +kernel
theorem dX12_valueOctets_27 : decode cX12_valueOctets 27 = .ok (.aload_n 0, 1) := by decide +kernel
theorem dX12_valueOctets_28 : decode cX12_valueOctets 28 = .ok (.getfield 116, 3) := by decide +kernel
theorem dX12_valueOctets_31 : decode cX12_valueOctets 31 = .ok (.iload_n 1, 1) := by decide +kernel
theorem dX12_valueOctets_32 : decode cX12_valueOctets 32 = .ok (.iaload, 1) := by decide +kernel
theorem dX12_valueOctets_33 : decode cX12_valueOctets 33 = .ok (.goto 59, 3) := by decide +kernel
theorem dX12_valueOctets_36 : decode cX12_valueOctets 36 = .ok (.iload_n 2, 1) := by decide +kernel
theorem dX12_valueOctets_37 : decode cX12_valueOctets 37 = .ok (.bipush 6, 2) := by decide +kernel
theorem dX12_valueOctets_39 : decode cX12_valueOctets 39 = .ok (.if_icmp .ne 23, 3) := by decide +kernel
theorem dX12_valueOctets_42 : decode cX12_valueOctets 42 = .ok (.aload_n 0, 1) := by decide +kernel
theorem dX12_valueOctets_43 : decode cX12_valueOctets 43 = .ok (.getfield 119, 3) := by decide +kernel
theorem dX12_valueOctets_46 : decode cX12_valueOctets 46 = .ok (.bipush 16, 2) := by decide +kernel
theorem dX12_valueOctets_48 : decode cX12_valueOctets 48 = .ok (.iload_n 1, 1) := by decide +kernel
theorem dX12_valueOctets_49 : decode cX12_valueOctets 49 = .ok (.imul, 1) := by decide +kernel
theorem dX12_valueOctets_50 : decode cX12_valueOctets 50 = .ok (.aload_n 0, 1) := by decide +kernel
theorem dX12_valueOctets_51 : decode cX12_valueOctets 51 = .ok (.getfield 122, 3) := by decide +kernel
theorem dX12_valueOctets_54 : decode cX12_valueOctets 54 = .ok (.iload_n 1, 1) := by decide +kernel
theorem dX12_valueOctets_55 : decode cX12_valueOctets 55 = .ok (.iaload, 1) := by decide +kernel
theorem dX12_valueOctets_56 : decode cX12_valueOctets 56 = .ok (.invokestatic 353, 3) := by decide +kernel
theorem dX12_valueOctets_59 : decode cX12_valueOctets 59 = .ok (.goto 33, 3) := by decide +kernel
theorem dX12_valueOctets_62 : decode cX12_valueOctets 62 = .ok (.iload_n 2, 1) := by decide +kernel
theorem dX12_valueOctets_63 : decode cX12_valueOctets 63 = .ok (.bipush 64, 2) := by decide +kernel
theorem dX12_valueOctets_65 : decode cX12_valueOctets 65 = .ok (.if_icmp .ne 7, 3) := by decide +kernel
theorem dX12_valueOctets_68 : decode cX12_valueOctets 68 = .ok (.iconst 4, 1) := by decide +kernel
theorem dX12_valueOctets_69 : decode cX12_valueOctets 69 = .ok (.goto 23, 3) := by decide +kernel
theorem dX12_valueOctets_72 : decode cX12_valueOctets 72 = .ok (.aload_n 0, 1) := by decide +kernel
theorem dX12_valueOctets_73 : decode cX12_valueOctets 73 = .ok (.getfield 110, 3) := by decide +kernel
theorem dX12_valueOctets_76 : decode cX12_valueOctets 76 = .ok (.iload_n 1, 1) := by decide +kernel
theorem dX12_valueOctets_77 : decode cX12_valueOctets 77 = .ok (.laload, 1) := by decide +kernel
theorem dX12_valueOctets_78 : decode cX12_valueOctets 78 = .ok (.iload_n 2, 1) := by decide +kernel
theorem dX12_valueOctets_79 : decode cX12_valueOctets 79 = .ok (.bipush 70, 2) := by decide +kernel
theorem dX12_valueOctets_81 : decode cX12_valueOctets 81 = .ok (.if_icmp .ne 7, 3) := by decide +kernel
theorem dX12_valueOctets_84 : decode cX12_valueOctets 84 = .ok (.iconst 1, 1) := by decide +kernel
theorem dX12_valueOctets_85 : decode cX12_valueOctets 85 = .ok (.goto 4, 3) := by decide +kernel
theorem dX12_valueOctets_88 : decode cX12_valueOctets 88 = .ok (.iconst 0, 1) := by decide +kernel
theorem dX12_valueOctets_89 : decode cX12_valueOctets 89 = .ok (.invokestatic 357, 3) := by decide +kernel
theorem dX12_valueOctets_92 : decode cX12_valueOctets 92 = .ok (.ireturn, 1) := by decide +kernel
theorem dX12_rowOctets_0 : decode cX12_rowOctets 0 = .ok (.aload_n 0, 1) := by decide +kernel
theorem dX12_rowOctets_1 : decode cX12_rowOctets 1 = .ok (.getfield 101, 3) := by decide +kernel
theorem dX12_rowOctets_4 : decode cX12_rowOctets 4 = .ok (.bipush 16, 2) := by decide +kernel
theorem dX12_rowOctets_6 : decode cX12_rowOctets 6 = .ok (.iload_n 1, 1) := by decide +kernel
theorem dX12_rowOctets_7 : decode cX12_rowOctets 7 = .ok (.imul, 1) := by decide +kernel
theorem dX12_rowOctets_8 : decode cX12_rowOctets 8 = .ok (.aload_n 0, 1) := by decide +kernel
theorem dX12_rowOctets_9 : decode cX12_rowOctets 9 = .ok (.getfield 104, 3) := by decide +kernel
theorem dX12_rowOctets_12 : decode cX12_rowOctets 12 = .ok (.iload_n 1, 1) := by decide +kernel
theorem dX12_rowOctets_13 : decode cX12_rowOctets 13 = .ok (.iaload, 1) := by decide +kernel
theorem dX12_rowOctets_14 : decode cX12_rowOctets 14 = .ok (.invokestatic 353, 3) := by decide +kernel
theorem dX12_rowOctets_17 : decode cX12_rowOctets 17 = .ok (.invokestatic 361, 3) := by decide +kernel
theorem dX12_rowOctets_20 : decode cX12_rowOctets 20 = .ok (.aload_n 0, 1) := by decide +kernel
theorem dX12_rowOctets_21 : decode cX12_rowOctets 21 = .ok (.iload_n 1, 1) := by decide +kernel
theorem dX12_rowOctets_22 : decode cX12_rowOctets 22 = .ok (.invokevirtual 364, 3) := by decide +kernel
theorem dX12_rowOctets_25 : decode cX12_rowOctets 25 = .ok (.invokestatic 361, 3) := by decide +kernel
theorem dX12_rowOctets_28 : decode cX12_rowOctets 28 = .ok (.iadd, 1) := by decide +kernel
theorem dX12_rowOctets_29 : decode cX12_rowOctets 29 = .ok (.ireturn, 1) := by decide +kernel
theorem dX12_rowsOctets_0 : decode cX12_rowsOctets 0 = .ok (.iconst 0, 1) := by decide +kernel
theorem dX12_rowsOctets_1 : decode cX12_rowsOctets 1 = .ok (.istore_n 3, 1) := by decide +kernel
theorem dX12_rowsOctets_2 : decode cX12_rowsOctets 2 = .ok (.iload_n 1, 1) := by decide +kernel
theorem dX12_rowsOctets_3 : decode cX12_rowsOctets 3 = .ok (.istore 4, 2) := by decide +kernel
theorem dX12_rowsOctets_5 : decode cX12_rowsOctets 5 = .ok (.iload 4, 2) := by decide +kernel
theorem dX12_rowsOctets_7 : decode cX12_rowsOctets 7 = .ok (.iload_n 1, 1) := by decide +kernel
theorem dX12_rowsOctets_8 : decode cX12_rowsOctets 8 = .ok (.iload_n 2, 1) := by decide +kernel
theorem dX12_rowsOctets_9 : decode cX12_rowsOctets 9 = .ok (.iadd, 1) := by decide +kernel
theorem dX12_rowsOctets_10 : decode cX12_rowsOctets 10 = .ok (.if_icmp .ge 21, 3) := by decide +kernel
theorem dX12_rowsOctets_13 : decode cX12_rowsOctets 13 = .ok (.iload_n 3, 1) := by decide +kernel
theorem dX12_rowsOctets_14 : decode cX12_rowsOctets 14 = .ok (.aload_n 0, 1) := by decide +kernel
theorem dX12_rowsOctets_15 : decode cX12_rowsOctets 15 = .ok (.iload 4, 2) := by decide +kernel
theorem dX12_rowsOctets_17 : decode cX12_rowsOctets 17 = .ok (.invokevirtual 367, 3) := by decide +kernel
theorem dX12_rowsOctets_20 : decode cX12_rowsOctets 20 = .ok (.invokestatic 361, 3) := by decide +kernel
theorem dX12_rowsOctets_23 : decode cX12_rowsOctets 23 = .ok (.iadd, 1) := by decide +kernel
theorem dX12_rowsOctets_24 : decode cX12_rowsOctets 24 = .ok (.istore_n 3, 1) := by decide +kernel
theorem dX12_rowsOctets_25 : decode cX12_rowsOctets 25 = .ok (.iinc 4 1, 3) := by decide +kernel
theorem dX12_rowsOctets_28 : decode cX12_rowsOctets 28 = .ok (.goto (-23), 3) := by decide +kernel
theorem dX12_rowsOctets_31 : decode cX12_rowsOctets 31 = .ok (.iload_n 3, 1) := by decide +kernel
theorem dX12_rowsOctets_32 : decode cX12_rowsOctets 32 = .ok (.ireturn, 1) := by decide +kernel
theorem dX12_bodyOctets_0 : decode cX12_bodyOctets 0 = .ok (.aload_n 0, 1) := by decide +kernel
theorem dX12_bodyOctets_1 : decode cX12_bodyOctets 1 = .ok (.getfield 300, 3) := by decide +kernel
theorem dX12_bodyOctets_4 : decode cX12_bodyOctets 4 = .ok (.i2l, 1) := by decide +kernel
theorem dX12_bodyOctets_5 : decode cX12_bodyOctets 5 = .ok (.iconst 0, 1) := by decide +kernel
theorem dX12_bodyOctets_6 : decode cX12_bodyOctets 6 = .ok (.invokestatic 357, 3) := by decide +kernel
theorem dX12_bodyOctets_9 : decode cX12_bodyOctets 9 = .ok (.invokestatic 361, 3) := by decide +kernel
theorem dX12_bodyOctets_12 : decode cX12_bodyOctets 12 = .ok (.aload_n 0, 1) := by decide +kernel
theorem dX12_bodyOctets_13 : decode cX12_bodyOctets 13 = .ok (.getfield 370, 3) := by decide +kernel
theorem dX12_bodyOctets_16 : decode cX12_bodyOctets 16 = .ok (.i2l, 1) := by decide +kernel
theorem dX12_bodyOctets_17 : decode cX12_bodyOctets 17 = .ok (.iconst 0, 1) := by decide +kernel
theorem dX12_bodyOctets_18 : decode cX12_bodyOctets 18 = .ok (.invokestatic 357, 3) := by decide +kernel
theorem dX12_bodyOctets_21 : decode cX12_bodyOctets 21 = .ok (.invokestatic 361, 3) := by decide +kernel
theorem dX12_bodyOctets_24 : decode cX12_bodyOctets 24 = .ok (.iadd, 1) := by decide +kernel
theorem dX12_bodyOctets_25 : decode cX12_bodyOctets 25 = .ok (.aload_n 0, 1) := by decide +kernel
theorem dX12_bodyOctets_26 : decode cX12_bodyOctets 26 = .ok (.getfield 373, 3) := by decide +kernel
theorem dX12_bodyOctets_29 : decode cX12_bodyOctets 29 = .ok (.i2l, 1) := by decide +kernel
theorem dX12_bodyOctets_30 : decode cX12_bodyOctets 30 = .ok (.iconst 0, 1) := by decide +kernel
theorem dX12_bodyOctets_31 : decode cX12_bodyOctets 31 = .ok (.invokestatic 357, 3) := by decide +kernel
theorem dX12_bodyOctets_34 : decode cX12_bodyOctets 34 = .ok (.invokestatic 361, 3) := by decide +kernel
theorem dX12_bodyOctets_37 : decode cX12_bodyOctets 37 = .ok (.iadd, 1) := by decide +kernel
theorem dX12_bodyOctets_38 : decode cX12_bodyOctets 38 = .ok (.aload_n 0, 1) := by decide +kernel
theorem dX12_bodyOctets_39 : decode cX12_bodyOctets 39 = .ok (.iload_n 1, 1) := by decide +kernel
theorem dX12_bodyOctets_40 : decode cX12_bodyOctets 40 = .ok (.iload_n 2, 1) := by decide +kernel
theorem dX12_bodyOctets_41 : decode cX12_bodyOctets 41 = .ok (.invokevirtual 376, 3) := by decide +kernel
theorem dX12_bodyOctets_44 : decode cX12_bodyOctets 44 = .ok (.invokestatic 361, 3) := by decide +kernel
theorem dX12_bodyOctets_47 : decode cX12_bodyOctets 47 = .ok (.iadd, 1) := by decide +kernel
theorem dX12_bodyOctets_48 : decode cX12_bodyOctets 48 = .ok (.ireturn, 1) := by decide +kernel
theorem dX12_allOctets_0 : decode cX12_allOctets 0 = .ok (.iconst 3, 1) := by decide +kernel
theorem dX12_allOctets_1 : decode cX12_allOctets 1 = .ok (.aload_n 0, 1) := by decide +kernel
theorem dX12_allOctets_2 : decode cX12_allOctets 2 = .ok (.getfield 291, 3) := by decide +kernel
theorem dX12_allOctets_5 : decode cX12_allOctets 5 = .ok (.invokestatic 361, 3) := by decide +kernel
theorem dX12_allOctets_8 : decode cX12_allOctets 8 = .ok (.iadd, 1) := by decide +kernel
theorem dX12_allOctets_9 : decode cX12_allOctets 9 = .ok (.aload_n 0, 1) := by decide +kernel
theorem dX12_allOctets_10 : decode cX12_allOctets 10 = .ok (.iload_n 1, 1) := by decide +kernel
theorem dX12_allOctets_11 : decode cX12_allOctets 11 = .ok (.iload_n 2, 1) := by decide +kernel
theorem dX12_allOctets_12 : decode cX12_allOctets 12 = .ok (.invokevirtual 379, 3) := by decide +kernel
theorem dX12_allOctets_15 : decode cX12_allOctets 15 = .ok (.invokestatic 361, 3) := by decide +kernel
theorem dX12_allOctets_18 : decode cX12_allOctets 18 = .ok (.iadd, 1) := by decide +kernel
theorem dX12_allOctets_19 : decode cX12_allOctets 19 = .ok (.invokestatic 361, 3) := by decide +kernel
theorem dX12_allOctets_22 : decode cX12_allOctets 22 = .ok (.ireturn, 1) := by decide +kernel
theorem dX12_put_0 : decode cX12_put 0 = .ok (.aload_n 0, 1) := by decide +kernel
theorem dX12_put_1 : decode cX12_put 1 = .ok (.getfield 131, 3) := by decide +kernel
theorem dX12_put_4 : decode cX12_put 4 = .ok (.aload_n 0, 1) := by decide +kernel
theorem dX12_put_5 : decode cX12_put 5 = .ok (.getfield 382, 3) := by decide +kernel
theorem dX12_put_8 : decode cX12_put 8 = .ok (.iload_n 1, 1) := by decide +kernel
theorem dX12_put_9 : decode cX12_put 9 = .ok (.i2b, 1) := by decide +kernel
theorem dX12_put_10 : decode cX12_put 10 = .ok (.bastore, 1) := by decide +kernel
theorem dX12_put_11 : decode cX12_put 11 = .ok (.aload_n 0, 1) := by decide +kernel
theorem dX12_put_12 : decode cX12_put 12 = .ok (.dup, 1) := by decide +kernel
theorem dX12_put_13 : decode cX12_put 13 = .ok (.getfield 382, 3) := by decide +kernel
theorem dX12_put_16 : decode cX12_put 16 = .ok (.iconst 1, 1) := by decide +kernel
theorem dX12_put_17 : decode cX12_put 17 = .ok (.iadd, 1) := by decide +kernel
theorem dX12_put_18 : decode cX12_put 18 = .ok (.putfield 382, 3) := by decide +kernel
theorem dX12_put_21 : decode cX12_put 21 = .ok (.return_, 1) := by decide +kernel
theorem dX12_head_0 : decode cX12_head 0 = .ok (.aload_n 0, 1) := by decide +kernel
theorem dX12_head_1 : decode cX12_head 1 = .ok (.iload_n 1, 1) := by decide +kernel
theorem dX12_head_2 : decode cX12_head 2 = .ok (.invokevirtual 385, 3) := by decide +kernel
theorem dX12_head_5 : decode cX12_head 5 = .ok (.iload_n 2, 1) := by decide +kernel
theorem dX12_head_6 : decode cX12_head 6 = .ok (.sipush 256, 3) := by decide +kernel
theorem dX12_head_9 : decode cX12_head 9 = .ok (.if_icmp .lt 21, 3) := by decide +kernel
theorem dX12_head_12 : decode cX12_head 12 = .ok (.aload_n 0, 1) := by decide +kernel
theorem dX12_head_13 : decode cX12_head 13 = .ok (.sipush 130, 3) := by decide +kernel
theorem dX12_head_16 : decode cX12_head 16 = .ok (.invokevirtual 385, 3) := by decide +kernel
theorem dX12_head_19 : decode cX12_head 19 = .ok (.aload_n 0, 1) := by decide +kernel
theorem dX12_head_20 : decode cX12_head 20 = .ok (.iload_n 2, 1) := by decide +kernel
theorem dX12_head_21 : decode cX12_head 21 = .ok (.bipush 8, 2) := by decide +kernel
theorem dX12_head_23 : decode cX12_head 23 = .ok (.ishr, 1) := by decide +kernel
theorem dX12_head_24 : decode cX12_head 24 = .ok (.invokevirtual 385, 3) := by decide +kernel
theorem dX12_head_27 : decode cX12_head 27 = .ok (.goto 17, 3) := by decide +kernel
theorem dX12_head_30 : decode cX12_head 30 = .ok (.iload_n 2, 1) := by decide +kernel
theorem dX12_head_31 : decode cX12_head 31 = .ok (.sipush 128, 3) := by decide +kernel
theorem dX12_head_34 : decode cX12_head 34 = .ok (.if_icmp .lt 10, 3) := by decide +kernel
theorem dX12_head_37 : decode cX12_head 37 = .ok (.aload_n 0, 1) := by decide +kernel
theorem dX12_head_38 : decode cX12_head 38 = .ok (.sipush 129, 3) := by decide +kernel
theorem dX12_head_41 : decode cX12_head 41 = .ok (.invokevirtual 385, 3) := by decide +kernel
theorem dX12_head_44 : decode cX12_head 44 = .ok (.aload_n 0, 1) := by decide +kernel
theorem dX12_head_45 : decode cX12_head 45 = .ok (.iload_n 2, 1) := by decide +kernel
theorem dX12_head_46 : decode cX12_head 46 = .ok (.invokevirtual 385, 3) := by decide +kernel
theorem dX12_head_49 : decode cX12_head 49 = .ok (.return_, 1) := by decide +kernel
theorem dX12_writeNumber_0 : decode cX12_writeNumber 0 = .ok (.lload_n 2, 1) := by decide +kernel
theorem dX12_writeNumber_1 : decode cX12_writeNumber 1 = .ok (.iload_n 1, 1) := by decide +kernel
theorem dX12_writeNumber_2 : decode cX12_writeNumber 2 = .ok (.bipush 70, 2) := by decide +kernel
theorem dX12_writeNumber_4 : decode cX12_writeNumber 4 = .ok (.if_icmp .ne 7, 3) := by decide +kernel
theorem dX12_writeNumber_7 : decode cX12_writeNumber 7 = .ok (.iconst 1, 1) := by decide +kernel
theorem dX12_writeNumber_8 : decode cX12_writeNumber 8 = .ok (.goto 4, 3) := by decide +kernel
theorem dX12_writeNumber_11 : decode cX12_writeNumber 11 = .ok (.iconst 0, 1) := by decide +kernel
theorem dX12_writeNumber_12 : decode cX12_writeNumber 12 = .ok (.invokestatic 357, 3) := by decide +kernel
theorem dX12_writeNumber_15 : decode cX12_writeNumber 15 = .ok (.istore 4, 2) := by decide +kernel
theorem dX12_writeNumber_17 : decode cX12_writeNumber 17 = .ok (.aload_n 0, 1) := by decide +kernel
theorem dX12_writeNumber_18 : decode cX12_writeNumber 18 = .ok (.iload_n 1, 1) := by decide +kernel
theorem dX12_writeNumber_19 : decode cX12_writeNumber 19 = .ok (.iload 4, 2) := by decide +kernel
theorem dX12_writeNumber_21 : decode cX12_writeNumber 21 = .ok (.invokevirtual 388, 3) := by decide +kernel
theorem dX12_writeNumber_24 : decode cX12_writeNumber 24 = .ok (.iload 4, 2) := by decide +kernel
theorem dX12_writeNumber_26 : decode cX12_writeNumber 26 = .ok (.iconst 1, 1) := by decide +kernel
theorem dX12_writeNumber_27 : decode cX12_writeNumber 27 = .ok (.isub, 1) := by decide +kernel
theorem dX12_writeNumber_28 : decode cX12_writeNumber 28 = .ok (.istore 5, 2) := by decide +kernel
theorem dX12_writeNumber_30 : decode cX12_writeNumber 30 = .ok (.iload 5, 2) := by decide +kernel
theorem dX12_writeNumber_32 : decode cX12_writeNumber 32 = .ok (.ifCond .lt 32, 3) := by decide +kernel
theorem dX12_writeNumber_35 : decode cX12_writeNumber 35 = .ok (.aload_n 0, 1) := by decide +kernel
theorem dX12_writeNumber_36 : decode cX12_writeNumber 36 = .ok (.iload 5, 2) := by decide +kernel
theorem dX12_writeNumber_38 : decode cX12_writeNumber 38 = .ok (.bipush 8, 2) := by decide +kernel
theorem dX12_writeNumber_40 : decode cX12_writeNumber 40 = .ok (.if_icmp .ne 7, 3) := by decide +kernel
theorem dX12_writeNumber_43 : decode cX12_writeNumber 43 = .ok (.iconst 0, 1) := by decide +kernel
theorem dX12_writeNumber_44 : decode cX12_writeNumber 44 = .ok (.goto 11, 3) := by decide +kernel
theorem dX12_writeNumber_47 : decode cX12_writeNumber 47 = .ok (.lload_n 2, 1) := by decide +kernel
theorem dX12_writeNumber_48 : decode cX12_writeNumber 48 = .ok (.bipush 8, 2) := by decide +kernel
theorem dX12_writeNumber_50 : decode cX12_writeNumber 50 = .ok (.iload 5, 2) := by decide +kernel
theorem dX12_writeNumber_52 : decode cX12_writeNumber 52 = .ok (.imul, 1) := by decide +kernel
theorem dX12_writeNumber_53 : decode cX12_writeNumber 53 = .ok (.lshr, 1) := by decide +kernel
theorem dX12_writeNumber_54 : decode cX12_writeNumber 54 = .ok (.l2i, 1) := by decide +kernel
theorem dX12_writeNumber_55 : decode cX12_writeNumber 55 = .ok (.invokevirtual 385, 3) := by decide +kernel
theorem dX12_writeNumber_58 : decode cX12_writeNumber 58 = .ok (.iinc 5 (-1), 3) := by decide +kernel
theorem dX12_writeNumber_61 : decode cX12_writeNumber 61 = .ok (.goto (-31), 3) := by decide +kernel
theorem dX12_writeNumber_64 : decode cX12_writeNumber 64 = .ok (.return_, 1) := by decide +kernel
theorem dX12_names_0 : decode cX12_names 0 = .ok (.aload_n 0, 1) := by decide +kernel
theorem dX12_names_1 : decode cX12_names 1 = .ok (.bipush 6, 2) := by decide +kernel
theorem dX12_names_3 : decode cX12_names 3 = .ok (.aload_n 1, 1) := by decide +kernel
theorem dX12_names_4 : decode cX12_names 4 = .ok (.iload_n 2, 1) := by decide +kernel
theorem dX12_names_5 : decode cX12_names 5 = .ok (.iload_n 3, 1) := by decide +kernel
theorem dX12_names_6 : decode cX12_names 6 = .ok (.invokestatic 353, 3) := by decide +kernel
theorem dX12_names_9 : decode cX12_names 9 = .ok (.invokevirtual 388, 3) := by decide +kernel
theorem dX12_names_12 : decode cX12_names 12 = .ok (.aload_n 0, 1) := by decide +kernel
theorem dX12_names_13 : decode cX12_names 13 = .ok (.ldc2_w 270, 3) := by decide +kernel
theorem dX12_names_16 : decode cX12_names 16 = .ok (.aload_n 1, 1) := by decide +kernel
theorem dX12_names_17 : decode cX12_names 17 = .ok (.iload_n 2, 1) := by decide +kernel
theorem dX12_names_18 : decode cX12_names 18 = .ok (.laload, 1) := by decide +kernel
theorem dX12_names_19 : decode cX12_names 19 = .ok (.lmul, 1) := by decide +kernel
theorem dX12_names_20 : decode cX12_names 20 = .ok (.aload_n 1, 1) := by decide +kernel
theorem dX12_names_21 : decode cX12_names 21 = .ok (.iload_n 2, 1) := by decide +kernel
theorem dX12_names_22 : decode cX12_names 22 = .ok (.iconst 1, 1) := by decide +kernel
theorem dX12_names_23 : decode cX12_names 23 = .ok (.iadd, 1) := by decide +kernel
theorem dX12_names_24 : decode cX12_names 24 = .ok (.laload, 1) := by decide +kernel
theorem dX12_names_25 : decode cX12_names 25 = .ok (.ladd, 1) := by decide +kernel
theorem dX12_names_26 : decode cX12_names 26 = .ok (.l2i, 1) := by decide +kernel
theorem dX12_names_27 : decode cX12_names 27 = .ok (.invokevirtual 385, 3) := by decide +kernel
theorem dX12_names_30 : decode cX12_names 30 = .ok (.iconst 2, 1) := by decide +kernel
theorem dX12_names_31 : decode cX12_names 31 = .ok (.istore 4, 2) := by decide +kernel
theorem dX12_names_33 : decode cX12_names 33 = .ok (.iload 4, 2) := by decide +kernel
theorem dX12_names_35 : decode cX12_names 35 = .ok (.iload_n 3, 1) := by decide +kernel
theorem dX12_names_36 : decode cX12_names 36 = .ok (.if_icmp .ge 66, 3) := by decide +kernel
theorem dX12_names_39 : decode cX12_names 39 = .ok (.aload_n 1, 1) := by decide +kernel
theorem dX12_names_40 : decode cX12_names 40 = .ok (.iload_n 2, 1) := by decide +kernel
theorem dX12_names_41 : decode cX12_names 41 = .ok (.iload 4, 2) := by decide +kernel
theorem dX12_names_43 : decode cX12_names 43 = .ok (.iadd, 1) := by decide +kernel
theorem dX12_names_44 : decode cX12_names 44 = .ok (.laload, 1) := by decide +kernel
theorem dX12_names_45 : decode cX12_names 45 = .ok (.invokestatic 349, 3) := by decide +kernel
theorem dX12_names_48 : decode cX12_names 48 = .ok (.iconst 1, 1) := by decide +kernel
theorem dX12_names_49 : decode cX12_names 49 = .ok (.isub, 1) := by decide +kernel
theorem dX12_names_50 : decode cX12_names 50 = .ok (.istore 5, 2) := by decide +kernel
theorem dX12_names_52 : decode cX12_names 52 = .ok (.iload 5, 2) := by decide +kernel
theorem dX12_names_54 : decode cX12_names 54 = .ok (.ifCond .lt 42, 3) := by decide +kernel
theorem dX12_names_57 : decode cX12_names 57 = .ok (.aload_n 0, 1) := by decide +kernel
theorem dX12_names_58 : decode cX12_names 58 = .ok (.aload_n 1, 1) := by decide +kernel
theorem dX12_names_59 : decode cX12_names 59 = .ok (.iload_n 2, 1) := by decide +kernel
theorem dX12_names_60 : decode cX12_names 60 = .ok (.iload 4, 2) := by decide +kernel
theorem dX12_names_62 : decode cX12_names 62 = .ok (.iadd, 1) := by decide +kernel
theorem dX12_names_63 : decode cX12_names 63 = .ok (.laload, 1) := by decide +kernel
theorem dX12_names_64 : decode cX12_names 64 = .ok (.bipush 7, 2) := by decide +kernel
theorem dX12_names_66 : decode cX12_names 66 = .ok (.iload 5, 2) := by decide +kernel
theorem dX12_names_68 : decode cX12_names 68 = .ok (.imul, 1) := by decide +kernel
theorem dX12_names_69 : decode cX12_names 69 = .ok (.lshr, 1) := by decide +kernel
theorem dX12_names_70 : decode cX12_names 70 = .ok (.l2i, 1) := by decide +kernel
theorem dX12_names_71 : decode cX12_names 71 = .ok (.bipush 127, 2) := by decide +kernel
theorem dX12_names_73 : decode cX12_names 73 = .ok (.iand, 1) := by decide +kernel
theorem dX12_names_74 : decode cX12_names 74 = .ok (.iload 5, 2) := by decide +kernel
theorem dX12_names_76 : decode cX12_names 76 = .ok (.ifCond .le 9, 3) := by decide +kernel
theorem dX12_names_79 : decode cX12_names 79 = .ok (.sipush 128, 3) := by decide +kernel
theorem dX12_names_82 : decode cX12_names 82 = .ok (.goto 4, 3) := by decide +kernel
theorem dX12_names_85 : decode cX12_names 85 = .ok (.iconst 0, 1) := by decide +kernel
theorem dX12_names_86 : decode cX12_names 86 = .ok (.ior, 1) := by decide +kernel
theorem dX12_names_87 : decode cX12_names 87 = .ok (.invokevirtual 385, 3) := by decide +kernel
theorem dX12_names_90 : decode cX12_names 90 = .ok (.iinc 5 (-1), 3) := by decide +kernel
theorem dX12_names_93 : decode cX12_names 93 = .ok (.goto (-41), 3) := by decide +kernel
theorem dX12_names_96 : decode cX12_names 96 = .ok (.iinc 4 1, 3) := by decide +kernel
theorem dX12_names_99 : decode cX12_names 99 = .ok (.goto (-66), 3) := by decide +kernel
theorem dX12_names_102 : decode cX12_names 102 = .ok (.return_, 1) := by decide +kernel
theorem dX12_writeValue_0 : decode cX12_writeValue 0 = .ok (.aload_n 0, 1) := by decide +kernel
theorem dX12_writeValue_1 : decode cX12_writeValue 1 = .ok (.getfield 107, 3) := by decide +kernel
theorem dX12_writeValue_4 : decode cX12_writeValue 4 = .ok (.iload_n 1, 1) := by decide +kernel
theorem dX12_writeValue_5 : decode cX12_writeValue 5 = .ok (.iaload, 1) := by decide +kernel
theorem dX12_writeValue_6 : decode cX12_writeValue 6 = .ok (.istore_n 2, 1) := by decide +kernel
theorem dX12_writeValue_7 : decode cX12_writeValue 7 = .ok (.iload_n 2, 1) := by decide +kernel
theorem dX12_writeValue_8 : decode cX12_writeValue 8 = .ok (.iconst 5, 1) := by decide +kernel
theorem dX12_writeValue_9 : decode cX12_writeValue 9 = .ok (.if_icmp .eq 9, 3) := by decide +kernel
theorem dX12_writeValue_12 : decode cX12_writeValue 12 = .ok (.iload_n 2, 1) := by decide +kernel
theorem dX12_writeValue_13 : decode cX12_writeValue 13 = .ok (.bipush 127, 2) := by decide +kernel
theorem dX12_writeValue_15 : decode cX12_writeValue 15 = .ok (.if_icmp .le 12, 3) := by decide +kernel
theorem dX12_writeValue_18 : decode cX12_writeValue 18 = .ok (.aload_n 0, 1) := by decide +kernel
theorem dX12_writeValue_19 : decode cX12_writeValue 19 = .ok (.iload_n 2, 1) := by decide +kernel
theorem dX12_writeValue_20 : decode cX12_writeValue 20 = .ok (.iconst 0, 1) := by decide +kernel
theorem dX12_writeValue_21 : decode cX12_writeValue 21 = .ok (.invokevirtual 388, 3) := by decide +kernel
theorem dX12_writeValue_24 : decode cX12_writeValue 24 = .ok (.goto 137, 3) := by decide +kernel
theorem dX12_writeValue_27 : decode cX12_writeValue 27 = .ok (.iload_n 2, 1) := by decide +kernel
theorem dX12_writeValue_28 : decode cX12_writeValue 28 = .ok (.iconst 4, 1) := by decide +kernel
theorem dX12_writeValue_29 : decode cX12_writeValue 29 = .ok (.if_icmp .ne 50, 3) := by decide +kernel
theorem dX12_writeValue_32 : decode cX12_writeValue 32 = .ok (.aload_n 0, 1) := by decide +kernel
theorem dX12_writeValue_33 : decode cX12_writeValue 33 = .ok (.iconst 4, 1) := by decide +kernel
theorem dX12_writeValue_34 : decode cX12_writeValue 34 = .ok (.aload_n 0, 1) := by decide +kernel
theorem dX12_writeValue_35 : decode cX12_writeValue 35 = .ok (.getfield 116, 3) := by decide +kernel
theorem dX12_writeValue_38 : decode cX12_writeValue 38 = .ok (.iload_n 1, 1) := by decide +kernel
theorem dX12_writeValue_39 : decode cX12_writeValue 39 = .ok (.iaload, 1) := by decide +kernel
theorem dX12_writeValue_40 : decode cX12_writeValue 40 = .ok (.invokevirtual 388, 3) := by decide +kernel
theorem dX12_writeValue_43 : decode cX12_writeValue 43 = .ok (.iconst 0, 1) := by decide +kernel
theorem dX12_writeValue_44 : decode cX12_writeValue 44 = .ok (.istore_n 3, 1) := by decide +kernel
theorem dX12_writeValue_45 : decode cX12_writeValue 45 = .ok (.iload_n 3, 1) := by decide +kernel
theorem dX12_writeValue_46 : decode cX12_writeValue 46 = .ok (.aload_n 0, 1) := by decide +kernel
theorem dX12_writeValue_47 : decode cX12_writeValue 47 = .ok (.getfield 116, 3) := by decide +kernel
theorem dX12_writeValue_50 : decode cX12_writeValue 50 = .ok (.iload_n 1, 1) := by decide +kernel
theorem dX12_writeValue_51 : decode cX12_writeValue 51 = .ok (.iaload, 1) := by decide +kernel
theorem dX12_writeValue_52 : decode cX12_writeValue 52 = .ok (.if_icmp .ge 24, 3) := by decide +kernel
theorem dX12_writeValue_55 : decode cX12_writeValue 55 = .ok (.aload_n 0, 1) := by decide +kernel
theorem dX12_writeValue_56 : decode cX12_writeValue 56 = .ok (.aload_n 0, 1) := by decide +kernel
theorem dX12_writeValue_57 : decode cX12_writeValue 57 = .ok (.getfield 113, 3) := by decide +kernel
theorem dX12_writeValue_60 : decode cX12_writeValue 60 = .ok (.bipush 40, 2) := by decide +kernel
theorem dX12_writeValue_62 : decode cX12_writeValue 62 = .ok (.iload_n 1, 1) := by decide +kernel
theorem dX12_writeValue_63 : decode cX12_writeValue 63 = .ok (.imul, 1) := by decide +kernel
theorem dX12_writeValue_64 : decode cX12_writeValue 64 = .ok (.iload_n 3, 1) := by decide +kernel
theorem dX12_writeValue_65 : decode cX12_writeValue 65 = .ok (.iadd, 1) := by decide +kernel
theorem dX12_writeValue_66 : decode cX12_writeValue 66 = .ok (.baload, 1) := by decide +kernel
theorem dX12_writeValue_67 : decode cX12_writeValue 67 = .ok (.invokevirtual 385, 3) := by decide +kernel
theorem dX12_writeValue_70 : decode cX12_writeValue 70 = .ok (.iinc 3 1, 3) := by decide +kernel
theorem dX12_writeValue_73 : decode cX12_writeValue 73 = .ok (.goto (-28), 3) := by decide +kernel
theorem dX12_writeValue_76 : decode cX12_writeValue 76 = .ok (.goto 85, 3) := by decide +kernel
theorem dX12_writeValue_79 : decode cX12_writeValue 79 = .ok (.iload_n 2, 1) := by decide +kernel
theorem dX12_writeValue_80 : decode cX12_writeValue 80 = .ok (.bipush 6, 2) := by decide +kernel
theorem dX12_writeValue_82 : decode cX12_writeValue 82 = .ok (.if_icmp .ne 24, 3) := by decide +kernel
theorem dX12_writeValue_85 : decode cX12_writeValue 85 = .ok (.aload_n 0, 1) := by decide +kernel
theorem dX12_writeValue_86 : decode cX12_writeValue 86 = .ok (.aload_n 0, 1) := by decide +kernel
theorem dX12_writeValue_87 : decode cX12_writeValue 87 = .ok (.getfield 119, 3) := by decide +kernel
theorem dX12_writeValue_90 : decode cX12_writeValue 90 = .ok (.bipush 16, 2) := by decide +kernel
theorem dX12_writeValue_92 : decode cX12_writeValue 92 = .ok (.iload_n 1, 1) := by decide +kernel
theorem dX12_writeValue_93 : decode cX12_writeValue 93 = .ok (.imul, 1) := by decide +kernel
theorem dX12_writeValue_94 : decode cX12_writeValue 94 = .ok (.aload_n 0, 1) := by decide +kernel
theorem dX12_writeValue_95 : decode cX12_writeValue 95 = .ok (.getfield 122, 3) := by decide +kernel
theorem dX12_writeValue_98 : decode cX12_writeValue 98 = .ok (.iload_n 1, 1) := by decide +kernel
theorem dX12_writeValue_99 : decode cX12_writeValue 99 = .ok (.iaload, 1) := by decide +kernel
theorem dX12_writeValue_100 : decode cX12_writeValue 100 = .ok (.invokevirtual 391, 3) := by decide +kernel
theorem dX12_writeValue_103 : decode cX12_writeValue 103 = .ok (.goto 58, 3) := by decide +kernel
theorem dX12_writeValue_106 : decode cX12_writeValue 106 = .ok (.iload_n 2, 1) := by decide +kernel
theorem dX12_writeValue_107 : decode cX12_writeValue 107 = .ok (.bipush 64, 2) := by decide +kernel
theorem dX12_writeValue_109 : decode cX12_writeValue 109 = .ok (.if_icmp .ne 41, 3) := by decide +kernel
theorem dX12_writeValue_112 : decode cX12_writeValue 112 = .ok (.aload_n 0, 1) := by decide +kernel
theorem dX12_writeValue_113 : decode cX12_writeValue 113 = .ok (.bipush 64, 2) := by decide +kernel
theorem dX12_writeValue_115 : decode cX12_writeValue 115 = .ok (.iconst 4, 1) := by decide +kernel
theorem dX12_writeValue_116 : decode cX12_writeValue 116 = .ok (.invokevirtual 388, 3) := by decide +kernel
theorem dX12_writeValue_119 : decode cX12_writeValue 119 = .ok (.iconst 3, 1) := by decide +kernel
theorem dX12_writeValue_120 : decode cX12_writeValue 120 = .ok (.istore_n 3, 1) := by decide +kernel
theorem dX12_writeValue_121 : decode cX12_writeValue 121 = .ok (.iload_n 3, 1) := by decide +kernel
theorem dX12_writeValue_122 : decode cX12_writeValue 122 = .ok (.ifCond .lt 25, 3) := by decide +kernel
theorem dX12_writeValue_125 : decode cX12_writeValue 125 = .ok (.aload_n 0, 1) := by decide +kernel
theorem dX12_writeValue_126 : decode cX12_writeValue 126 = .ok (.aload_n 0, 1) := by decide +kernel
theorem dX12_writeValue_127 : decode cX12_writeValue 127 = .ok (.getfield 110, 3) := by decide +kernel
theorem dX12_writeValue_130 : decode cX12_writeValue 130 = .ok (.iload_n 1, 1) := by decide +kernel
theorem dX12_writeValue_131 : decode cX12_writeValue 131 = .ok (.laload, 1) := by decide +kernel
theorem dX12_writeValue_132 : decode cX12_writeValue 132 = .ok (.bipush 8, 2) := by decide +kernel
theorem dX12_writeValue_134 : decode cX12_writeValue 134 = .ok (.iload_n 3, 1) := by decide +kernel
theorem dX12_writeValue_135 : decode cX12_writeValue 135 = .ok (.imul, 1) := by decide +kernel
theorem dX12_writeValue_136 : decode cX12_writeValue 136 = .ok (.lshr, 1) := by decide +kernel
theorem dX12_writeValue_137 : decode cX12_writeValue 137 = .ok (.l2i, 1) := by decide +kernel
theorem dX12_writeValue_138 : decode cX12_writeValue 138 = .ok (.invokevirtual 385, 3) := by decide +kernel
theorem dX12_writeValue_141 : decode cX12_writeValue 141 = .ok (.iinc 3 (-1), 3) := by decide +kernel
theorem dX12_writeValue_144 : decode cX12_writeValue 144 = .ok (.goto (-23), 3) := by decide +kernel
theorem dX12_writeValue_147 : decode cX12_writeValue 147 = .ok (.goto 14, 3) := by decide +kernel
theorem dX12_writeValue_150 : decode cX12_writeValue 150 = .ok (.aload_n 0, 1) := by decide +kernel
theorem dX12_writeValue_151 : decode cX12_writeValue 151 = .ok (.iload_n 2, 1) := by decide +kernel
theorem dX12_writeValue_152 : decode cX12_writeValue 152 = .ok (.aload_n 0, 1) := by decide +kernel
theorem dX12_writeValue_153 : decode cX12_writeValue 153 = .ok (.getfield 110, 3) := by decide +kernel
theorem dX12_writeValue_156 : decode cX12_writeValue 156 = .ok (.iload_n 1, 1) := by decide +kernel
theorem dX12_writeValue_157 : decode cX12_writeValue 157 = .ok (.laload, 1) := by decide +kernel
theorem dX12_writeValue_158 : decode cX12_writeValue 158 = .ok (.invokevirtual 395, 3) := by decide +kernel
theorem dX12_writeValue_161 : decode cX12_writeValue 161 = .ok (.return_, 1) := by decide +kernel
theorem dX12_write_0 : decode cX12_write 0 = .ok (.aload_n 0, 1) := by decide +kernel
theorem dX12_write_1 : decode cX12_write 1 = .ok (.iconst 0, 1) := by decide +kernel
theorem dX12_write_2 : decode cX12_write 2 = .ok (.putfield 382, 3) := by decide +kernel
theorem dX12_write_5 : decode cX12_write 5 = .ok (.aload_n 0, 1) := by decide +kernel
theorem dX12_write_6 : decode cX12_write 6 = .ok (.bipush 48, 2) := by decide +kernel
theorem dX12_write_8 : decode cX12_write 8 = .ok (.iconst 3, 1) := by decide +kernel
theorem dX12_write_9 : decode cX12_write 9 = .ok (.aload_n 0, 1) := by decide +kernel
theorem dX12_write_10 : decode cX12_write 10 = .ok (.getfield 291, 3) := by decide +kernel
theorem dX12_write_13 : decode cX12_write 13 = .ok (.invokestatic 361, 3) := by decide +kernel
theorem dX12_write_16 : decode cX12_write 16 = .ok (.iadd, 1) := by decide +kernel
theorem dX12_write_17 : decode cX12_write 17 = .ok (.aload_n 0, 1) := by decide +kernel
theorem dX12_write_18 : decode cX12_write 18 = .ok (.iload_n 1, 1) := by decide +kernel
theorem dX12_write_19 : decode cX12_write 19 = .ok (.iload_n 2, 1) := by decide +kernel
theorem dX12_write_20 : decode cX12_write 20 = .ok (.invokevirtual 379, 3) := by decide +kernel
theorem dX12_write_23 : decode cX12_write 23 = .ok (.invokestatic 361, 3) := by decide +kernel
theorem dX12_write_26 : decode cX12_write 26 = .ok (.iadd, 1) := by decide +kernel
theorem dX12_write_27 : decode cX12_write 27 = .ok (.invokevirtual 388, 3) := by decide +kernel
theorem dX12_write_30 : decode cX12_write 30 = .ok (.aload_n 0, 1) := by decide +kernel
theorem dX12_write_31 : decode cX12_write 31 = .ok (.iconst 2, 1) := by decide +kernel
theorem dX12_write_32 : decode cX12_write 32 = .ok (.aload_n 0, 1) := by decide +kernel
theorem dX12_write_33 : decode cX12_write 33 = .ok (.getfield 285, 3) := by decide +kernel
theorem dX12_write_36 : decode cX12_write 36 = .ok (.i2l, 1) := by decide +kernel
theorem dX12_write_37 : decode cX12_write 37 = .ok (.invokevirtual 395, 3) := by decide +kernel
theorem dX12_write_40 : decode cX12_write 40 = .ok (.aload_n 0, 1) := by decide +kernel
theorem dX12_write_41 : decode cX12_write 41 = .ok (.iconst 4, 1) := by decide +kernel
theorem dX12_write_42 : decode cX12_write 42 = .ok (.aload_n 0, 1) := by decide +kernel
theorem dX12_write_43 : decode cX12_write 43 = .ok (.getfield 291, 3) := by decide +kernel
theorem dX12_write_46 : decode cX12_write 46 = .ok (.invokevirtual 388, 3) := by decide +kernel
theorem dX12_write_49 : decode cX12_write 49 = .ok (.iconst 0, 1) := by decide +kernel
theorem dX12_write_50 : decode cX12_write 50 = .ok (.istore_n 3, 1) := by decide +kernel
theorem dX12_write_51 : decode cX12_write 51 = .ok (.iload_n 3, 1) := by decide +kernel
theorem dX12_write_52 : decode cX12_write 52 = .ok (.aload_n 0, 1) := by decide +kernel
theorem dX12_write_53 : decode cX12_write 53 = .ok (.getfield 291, 3) := by decide +kernel
theorem dX12_write_56 : decode cX12_write 56 = .ok (.if_icmp .ge 24, 3) := by decide +kernel
theorem dX12_write_59 : decode cX12_write 59 = .ok (.aload_n 0, 1) := by decide +kernel
theorem dX12_write_60 : decode cX12_write 60 = .ok (.aload_n 0, 1) := by decide +kernel
theorem dX12_write_61 : decode cX12_write 61 = .ok (.getfield 7, 3) := by decide +kernel
theorem dX12_write_64 : decode cX12_write 64 = .ok (.aload_n 0, 1) := by decide +kernel
theorem dX12_write_65 : decode cX12_write 65 = .ok (.getfield 288, 3) := by decide +kernel
theorem dX12_write_68 : decode cX12_write 68 = .ok (.iload_n 3, 1) := by decide +kernel
theorem dX12_write_69 : decode cX12_write 69 = .ok (.iadd, 1) := by decide +kernel
theorem dX12_write_70 : decode cX12_write 70 = .ok (.baload, 1) := by decide +kernel
theorem dX12_write_71 : decode cX12_write 71 = .ok (.invokevirtual 385, 3) := by decide +kernel
theorem dX12_write_74 : decode cX12_write 74 = .ok (.iinc 3 1, 3) := by decide +kernel
theorem dX12_write_77 : decode cX12_write 77 = .ok (.goto (-26), 3) := by decide +kernel
theorem dX12_write_80 : decode cX12_write 80 = .ok (.aload_n 0, 1) := by decide +kernel
theorem dX12_write_81 : decode cX12_write 81 = .ok (.sipush 162, 3) := by decide +kernel
theorem dX12_write_84 : decode cX12_write 84 = .ok (.aload_n 0, 1) := by decide +kernel
theorem dX12_write_85 : decode cX12_write 85 = .ok (.iload_n 1, 1) := by decide +kernel
theorem dX12_write_86 : decode cX12_write 86 = .ok (.iload_n 2, 1) := by decide +kernel
theorem dX12_write_87 : decode cX12_write 87 = .ok (.invokevirtual 379, 3) := by decide +kernel
theorem dX12_write_90 : decode cX12_write 90 = .ok (.invokevirtual 388, 3) := by decide +kernel
theorem dX12_write_93 : decode cX12_write 93 = .ok (.aload_n 0, 1) := by decide +kernel
theorem dX12_write_94 : decode cX12_write 94 = .ok (.iconst 2, 1) := by decide +kernel
theorem dX12_write_95 : decode cX12_write 95 = .ok (.aload_n 0, 1) := by decide +kernel
theorem dX12_write_96 : decode cX12_write 96 = .ok (.getfield 300, 3) := by decide +kernel
theorem dX12_write_99 : decode cX12_write 99 = .ok (.i2l, 1) := by decide +kernel
theorem dX12_write_100 : decode cX12_write 100 = .ok (.invokevirtual 395, 3) := by decide +kernel
theorem dX12_write_103 : decode cX12_write 103 = .ok (.aload_n 0, 1) := by decide +kernel
theorem dX12_write_104 : decode cX12_write 104 = .ok (.iconst 2, 1) := by decide +kernel
theorem dX12_write_105 : decode cX12_write 105 = .ok (.aload_n 0, 1) := by decide +kernel
theorem dX12_write_106 : decode cX12_write 106 = .ok (.getfield 370, 3) := by decide +kernel
theorem dX12_write_109 : decode cX12_write 109 = .ok (.i2l, 1) := by decide +kernel
theorem dX12_write_110 : decode cX12_write 110 = .ok (.invokevirtual 395, 3) := by decide +kernel
theorem dX12_write_113 : decode cX12_write 113 = .ok (.aload_n 0, 1) := by decide +kernel
theorem dX12_write_114 : decode cX12_write 114 = .ok (.iconst 2, 1) := by decide +kernel
theorem dX12_write_115 : decode cX12_write 115 = .ok (.aload_n 0, 1) := by decide +kernel
theorem dX12_write_116 : decode cX12_write 116 = .ok (.getfield 373, 3) := by decide +kernel
theorem dX12_write_119 : decode cX12_write 119 = .ok (.i2l, 1) := by decide +kernel
theorem dX12_write_120 : decode cX12_write 120 = .ok (.invokevirtual 395, 3) := by decide +kernel
theorem dX12_write_123 : decode cX12_write 123 = .ok (.aload_n 0, 1) := by decide +kernel
theorem dX12_write_124 : decode cX12_write 124 = .ok (.bipush 48, 2) := by decide +kernel
theorem dX12_write_126 : decode cX12_write 126 = .ok (.aload_n 0, 1) := by decide +kernel
theorem dX12_write_127 : decode cX12_write 127 = .ok (.iload_n 1, 1) := by decide +kernel
theorem dX12_write_128 : decode cX12_write 128 = .ok (.iload_n 2, 1) := by decide +kernel
theorem dX12_write_129 : decode cX12_write 129 = .ok (.invokevirtual 376, 3) := by decide +kernel
theorem dX12_write_132 : decode cX12_write 132 = .ok (.invokevirtual 388, 3) := by decide +kernel
theorem dX12_write_135 : decode cX12_write 135 = .ok (.iload_n 1, 1) := by decide +kernel
theorem dX12_write_136 : decode cX12_write 136 = .ok (.istore_n 3, 1) := by decide +kernel
theorem dX12_write_137 : decode cX12_write 137 = .ok (.iload_n 3, 1) := by decide +kernel
theorem dX12_write_138 : decode cX12_write 138 = .ok (.iload_n 1, 1) := by decide +kernel
theorem dX12_write_139 : decode cX12_write 139 = .ok (.iload_n 2, 1) := by decide +kernel
theorem dX12_write_140 : decode cX12_write 140 = .ok (.iadd, 1) := by decide +kernel
theorem dX12_write_141 : decode cX12_write 141 = .ok (.if_icmp .ge 43, 3) := by decide +kernel
theorem dX12_write_144 : decode cX12_write 144 = .ok (.aload_n 0, 1) := by decide +kernel
theorem dX12_write_145 : decode cX12_write 145 = .ok (.bipush 48, 2) := by decide +kernel
theorem dX12_write_147 : decode cX12_write 147 = .ok (.aload_n 0, 1) := by decide +kernel
theorem dX12_write_148 : decode cX12_write 148 = .ok (.iload_n 3, 1) := by decide +kernel
theorem dX12_write_149 : decode cX12_write 149 = .ok (.invokevirtual 367, 3) := by decide +kernel
theorem dX12_write_152 : decode cX12_write 152 = .ok (.invokevirtual 388, 3) := by decide +kernel
theorem dX12_write_155 : decode cX12_write 155 = .ok (.aload_n 0, 1) := by decide +kernel
theorem dX12_write_156 : decode cX12_write 156 = .ok (.aload_n 0, 1) := by decide +kernel
theorem dX12_write_157 : decode cX12_write 157 = .ok (.getfield 101, 3) := by decide +kernel
theorem dX12_write_160 : decode cX12_write 160 = .ok (.bipush 16, 2) := by decide +kernel
theorem dX12_write_162 : decode cX12_write 162 = .ok (.iload_n 3, 1) := by decide +kernel
theorem dX12_write_163 : decode cX12_write 163 = .ok (.imul, 1) := by decide +kernel
theorem dX12_write_164 : decode cX12_write 164 = .ok (.aload_n 0, 1) := by decide +kernel
theorem dX12_write_165 : decode cX12_write 165 = .ok (.getfield 104, 3) := by decide +kernel
theorem dX12_write_168 : decode cX12_write 168 = .ok (.iload_n 3, 1) := by decide +kernel
theorem dX12_write_169 : decode cX12_write 169 = .ok (.iaload, 1) := by decide +kernel
theorem dX12_write_170 : decode cX12_write 170 = .ok (.invokevirtual 391, 3) := by decide +kernel
theorem dX12_write_173 : decode cX12_write 173 = .ok (.aload_n 0, 1) := by decide +kernel
theorem dX12_write_174 : decode cX12_write 174 = .ok (.iload_n 3, 1) := by decide +kernel
theorem dX12_write_175 : decode cX12_write 175 = .ok (.invokevirtual 399, 3) := by decide +kernel
theorem dX12_write_178 : decode cX12_write 178 = .ok (.iinc 3 1, 3) := by decide +kernel
theorem dX12_write_181 : decode cX12_write 181 = .ok (.goto (-44), 3) := by decide +kernel
theorem dX12_write_184 : decode cX12_write 184 = .ok (.aload_n 0, 1) := by decide +kernel
theorem dX12_write_185 : decode cX12_write 185 = .ok (.aload_n 0, 1) := by decide +kernel
theorem dX12_write_186 : decode cX12_write 186 = .ok (.getfield 382, 3) := by decide +kernel
theorem dX12_write_189 : decode cX12_write 189 = .ok (.putfield 402, 3) := by decide +kernel
theorem dX12_write_192 : decode cX12_write 192 = .ok (.return_, 1) := by decide +kernel
theorem dX12_oneMore_0 : decode cX12_oneMore 0 = .ok (.aload_n 0, 1) := by decide +kernel
theorem dX12_oneMore_1 : decode cX12_oneMore 1 = .ok (.getfield 405, 3) := by decide +kernel
theorem dX12_oneMore_4 : decode cX12_oneMore 4 = .ok (.bipush 40, 2) := by decide +kernel
theorem dX12_oneMore_6 : decode cX12_oneMore 6 = .ok (.if_icmp .ne 5, 3) := by decide +kernel
theorem dX12_oneMore_9 : decode cX12_oneMore 9 = .ok (.iconst 0, 1) := by decide +kernel
theorem dX12_oneMore_10 : decode cX12_oneMore 10 = .ok (.ireturn, 1) := by decide +kernel
theorem dX12_oneMore_11 : decode cX12_oneMore 11 = .ok (.aload_n 0, 1) := by decide +kernel
theorem dX12_oneMore_12 : decode cX12_oneMore 12 = .ok (.iload_n 1, 1) := by decide +kernel
theorem dX12_oneMore_13 : decode cX12_oneMore 13 = .ok (.bipush 20, 2) := by decide +kernel
theorem dX12_oneMore_15 : decode cX12_oneMore 15 = .ok (.aload_n 0, 1) := by decide +kernel
theorem dX12_oneMore_16 : decode cX12_oneMore 16 = .ok (.getfield 405, 3) := by decide +kernel
theorem dX12_oneMore_19 : decode cX12_oneMore 19 = .ok (.iadd, 1) := by decide +kernel
theorem dX12_oneMore_20 : decode cX12_oneMore 20 = .ok (.invokevirtual 408, 3) := by decide +kernel
theorem dX12_oneMore_23 : decode cX12_oneMore 23 = .ok (.aload_n 0, 1) := by decide +kernel
theorem dX12_oneMore_24 : decode cX12_oneMore 24 = .ok (.bipush 20, 2) := by decide +kernel
theorem dX12_oneMore_26 : decode cX12_oneMore 26 = .ok (.aload_n 0, 1) := by decide +kernel
theorem dX12_oneMore_27 : decode cX12_oneMore 27 = .ok (.getfield 405, 3) := by decide +kernel
theorem dX12_oneMore_30 : decode cX12_oneMore 30 = .ok (.iconst 1, 1) := by decide +kernel
theorem dX12_oneMore_31 : decode cX12_oneMore 31 = .ok (.iadd, 1) := by decide +kernel
theorem dX12_oneMore_32 : decode cX12_oneMore 32 = .ok (.invokevirtual 411, 3) := by decide +kernel
theorem dX12_oneMore_35 : decode cX12_oneMore 35 = .ok (.aload_n 0, 1) := by decide +kernel
theorem dX12_oneMore_36 : decode cX12_oneMore 36 = .ok (.getfield 17, 3) := by decide +kernel
theorem dX12_oneMore_39 : decode cX12_oneMore 39 = .ok (.if_icmp .le 5, 3) := by decide +kernel
theorem dX12_oneMore_42 : decode cX12_oneMore 42 = .ok (.iconst 0, 1) := by decide +kernel
theorem dX12_oneMore_43 : decode cX12_oneMore 43 = .ok (.ireturn, 1) := by decide +kernel
theorem dX12_oneMore_44 : decode cX12_oneMore 44 = .ok (.aload_n 0, 1) := by decide +kernel
theorem dX12_oneMore_45 : decode cX12_oneMore 45 = .ok (.dup, 1) := by decide +kernel
theorem dX12_oneMore_46 : decode cX12_oneMore 46 = .ok (.getfield 405, 3) := by decide +kernel
theorem dX12_oneMore_49 : decode cX12_oneMore 49 = .ok (.iconst 1, 1) := by decide +kernel
theorem dX12_oneMore_50 : decode cX12_oneMore 50 = .ok (.iadd, 1) := by decide +kernel
theorem dX12_oneMore_51 : decode cX12_oneMore 51 = .ok (.putfield 405, 3) := by decide +kernel
theorem dX12_oneMore_54 : decode cX12_oneMore 54 = .ok (.iconst 1, 1) := by decide +kernel
theorem dX12_oneMore_55 : decode cX12_oneMore 55 = .ok (.ireturn, 1) := by decide +kernel
theorem dX12_many_0 : decode cX12_many 0 = .ok (.aload_n 0, 1) := by decide +kernel
theorem dX12_many_1 : decode cX12_many 1 = .ok (.getfield 303, 3) := by decide +kernel
theorem dX12_many_4 : decode cX12_many 4 = .ok (.ifCond .ge 7, 3) := by decide +kernel
theorem dX12_many_7 : decode cX12_many 7 = .ok (.iconst 0, 1) := by decide +kernel
theorem dX12_many_8 : decode cX12_many 8 = .ok (.goto 25, 3) := by decide +kernel
theorem dX12_many_11 : decode cX12_many 11 = .ok (.aload_n 0, 1) := by decide +kernel
theorem dX12_many_12 : decode cX12_many 12 = .ok (.getfield 303, 3) := by decide +kernel
theorem dX12_many_15 : decode cX12_many 15 = .ok (.aload_n 0, 1) := by decide +kernel
theorem dX12_many_16 : decode cX12_many 16 = .ok (.getfield 276, 3) := by decide +kernel
theorem dX12_many_19 : decode cX12_many 19 = .ok (.if_icmp .le 10, 3) := by decide +kernel
theorem dX12_many_22 : decode cX12_many 22 = .ok (.aload_n 0, 1) := by decide +kernel
theorem dX12_many_23 : decode cX12_many 23 = .ok (.getfield 276, 3) := by decide +kernel
theorem dX12_many_26 : decode cX12_many 26 = .ok (.goto 7, 3) := by decide +kernel
theorem dX12_many_29 : decode cX12_many 29 = .ok (.aload_n 0, 1) := by decide +kernel
theorem dX12_many_30 : decode cX12_many 30 = .ok (.getfield 303, 3) := by decide +kernel
theorem dX12_many_33 : decode cX12_many 33 = .ok (.istore_n 1, 1) := by decide +kernel
theorem dX12_many_34 : decode cX12_many 34 = .ok (.aload_n 0, 1) := by decide +kernel
theorem dX12_many_35 : decode cX12_many 35 = .ok (.getfield 276, 3) := by decide +kernel
theorem dX12_many_38 : decode cX12_many 38 = .ok (.iload_n 1, 1) := by decide +kernel
theorem dX12_many_39 : decode cX12_many 39 = .ok (.isub, 1) := by decide +kernel
theorem dX12_many_40 : decode cX12_many 40 = .ok (.istore_n 2, 1) := by decide +kernel
theorem dX12_many_41 : decode cX12_many 41 = .ok (.iconst 1, 1) := by decide +kernel
theorem dX12_many_42 : decode cX12_many 42 = .ok (.istore_n 3, 1) := by decide +kernel
theorem dX12_many_43 : decode cX12_many 43 = .ok (.iconst 0, 1) := by decide +kernel
theorem dX12_many_44 : decode cX12_many 44 = .ok (.istore 4, 2) := by decide +kernel
theorem dX12_many_46 : decode cX12_many 46 = .ok (.iload 4, 2) := by decide +kernel
theorem dX12_many_48 : decode cX12_many 48 = .ok (.iload_n 1, 1) := by decide +kernel
theorem dX12_many_49 : decode cX12_many 49 = .ok (.if_icmp .ge 20, 3) := by decide +kernel
theorem dX12_many_52 : decode cX12_many 52 = .ok (.iload_n 3, 1) := by decide +kernel
theorem dX12_many_53 : decode cX12_many 53 = .ok (.ifCond .eq 16, 3) := by decide +kernel
theorem dX12_many_56 : decode cX12_many 56 = .ok (.aload_n 0, 1) := by decide +kernel
theorem dX12_many_57 : decode cX12_many 57 = .ok (.iload 4, 2) := by decide +kernel
theorem dX12_many_59 : decode cX12_many 59 = .ok (.invokevirtual 414, 3) := by decide +kernel
theorem dX12_many_62 : decode cX12_many 62 = .ok (.istore_n 3, 1) := by decide +kernel
theorem dX12_many_63 : decode cX12_many 63 = .ok (.iinc 4 1, 3) := by decide +kernel
theorem dX12_many_66 : decode cX12_many 66 = .ok (.goto (-20), 3) := by decide +kernel
theorem dX12_many_69 : decode cX12_many 69 = .ok (.iconst 0, 1) := by decide +kernel
theorem dX12_many_70 : decode cX12_many 70 = .ok (.istore 4, 2) := by decide +kernel
theorem dX12_many_72 : decode cX12_many 72 = .ok (.iload 4, 2) := by decide +kernel
theorem dX12_many_74 : decode cX12_many 74 = .ok (.aload_n 0, 1) := by decide +kernel
theorem dX12_many_75 : decode cX12_many 75 = .ok (.getfield 306, 3) := by decide +kernel
theorem dX12_many_78 : decode cX12_many 78 = .ok (.if_icmp .ge 127, 3) := by decide +kernel
theorem dX12_many_81 : decode cX12_many 81 = .ok (.iload_n 3, 1) := by decide +kernel
theorem dX12_many_82 : decode cX12_many 82 = .ok (.ifCond .eq 123, 3) := by decide +kernel
theorem dX12_many_85 : decode cX12_many 85 = .ok (.iload_n 2, 1) := by decide +kernel
theorem dX12_many_86 : decode cX12_many 86 = .ok (.ifCond .le 119, 3) := by decide +kernel
theorem dX12_many_89 : decode cX12_many 89 = .ok (.iconst 1, 1) := by decide +kernel
theorem dX12_many_90 : decode cX12_many 90 = .ok (.istore 5, 2) := by decide +kernel
theorem dX12_many_92 : decode cX12_many 92 = .ok (.aload_n 0, 1) := by decide +kernel
theorem dX12_many_93 : decode cX12_many 93 = .ok (.getfield 405, 3) := by decide +kernel
theorem dX12_many_96 : decode cX12_many 96 = .ok (.iload_n 2, 1) := by decide +kernel
theorem dX12_many_97 : decode cX12_many 97 = .ok (.isub, 1) := by decide +kernel
theorem dX12_many_98 : decode cX12_many 98 = .ok (.istore 6, 2) := by decide +kernel
theorem dX12_many_100 : decode cX12_many 100 = .ok (.iconst 0, 1) := by decide +kernel
theorem dX12_many_101 : decode cX12_many 101 = .ok (.istore 7, 2) := by decide +kernel
theorem dX12_many_103 : decode cX12_many 103 = .ok (.iload 7, 2) := by decide +kernel
theorem dX12_many_105 : decode cX12_many 105 = .ok (.iload_n 2, 1) := by decide +kernel
theorem dX12_many_106 : decode cX12_many 106 = .ok (.if_icmp .ge 78, 3) := by decide +kernel
theorem dX12_many_109 : decode cX12_many 109 = .ok (.iload_n 3, 1) := by decide +kernel
theorem dX12_many_110 : decode cX12_many 110 = .ok (.ifCond .eq 74, 3) := by decide +kernel
theorem dX12_many_113 : decode cX12_many 113 = .ok (.iload 4, 2) := by decide +kernel
theorem dX12_many_115 : decode cX12_many 115 = .ok (.ifCond .ne 10, 3) := by decide +kernel
theorem dX12_many_118 : decode cX12_many 118 = .ok (.iload_n 1, 1) := by decide +kernel
theorem dX12_many_119 : decode cX12_many 119 = .ok (.iload 7, 2) := by decide +kernel
theorem dX12_many_121 : decode cX12_many 121 = .ok (.iadd, 1) := by decide +kernel
theorem dX12_many_122 : decode cX12_many 122 = .ok (.goto 11, 3) := by decide +kernel
theorem dX12_many_125 : decode cX12_many 125 = .ok (.bipush 20, 2) := by decide +kernel
theorem dX12_many_127 : decode cX12_many 127 = .ok (.iload 6, 2) := by decide +kernel
theorem dX12_many_129 : decode cX12_many 129 = .ok (.iadd, 1) := by decide +kernel
theorem dX12_many_130 : decode cX12_many 130 = .ok (.iload 7, 2) := by decide +kernel
theorem dX12_many_132 : decode cX12_many 132 = .ok (.iadd, 1) := by decide +kernel
theorem dX12_many_133 : decode cX12_many 133 = .ok (.istore 8, 2) := by decide +kernel
theorem dX12_many_135 : decode cX12_many 135 = .ok (.aload_n 0, 1) := by decide +kernel
theorem dX12_many_136 : decode cX12_many 136 = .ok (.iload 8, 2) := by decide +kernel
theorem dX12_many_138 : decode cX12_many 138 = .ok (.invokevirtual 414, 3) := by decide +kernel
theorem dX12_many_141 : decode cX12_many 141 = .ok (.istore_n 3, 1) := by decide +kernel
theorem dX12_many_142 : decode cX12_many 142 = .ok (.iload 5, 2) := by decide +kernel
theorem dX12_many_144 : decode cX12_many 144 = .ok (.ifCond .eq 31, 3) := by decide +kernel
theorem dX12_many_147 : decode cX12_many 147 = .ok (.iload_n 3, 1) := by decide +kernel
theorem dX12_many_148 : decode cX12_many 148 = .ok (.ifCond .eq 27, 3) := by decide +kernel
theorem dX12_many_151 : decode cX12_many 151 = .ok (.aload_n 0, 1) := by decide +kernel
theorem dX12_many_152 : decode cX12_many 152 = .ok (.getfield 107, 3) := by decide +kernel
theorem dX12_many_155 : decode cX12_many 155 = .ok (.bipush 20, 2) := by decide +kernel
theorem dX12_many_157 : decode cX12_many 157 = .ok (.aload_n 0, 1) := by decide +kernel
theorem dX12_many_158 : decode cX12_many 158 = .ok (.getfield 405, 3) := by decide +kernel
theorem dX12_many_161 : decode cX12_many 161 = .ok (.iadd, 1) := by decide +kernel
theorem dX12_many_162 : decode cX12_many 162 = .ok (.iconst 1, 1) := by decide +kernel
theorem dX12_many_163 : decode cX12_many 163 = .ok (.isub, 1) := by decide +kernel
theorem dX12_many_164 : decode cX12_many 164 = .ok (.iaload, 1) := by decide +kernel
theorem dX12_many_165 : decode cX12_many 165 = .ok (.sipush 130, 3) := by decide +kernel
theorem dX12_many_168 : decode cX12_many 168 = .ok (.if_icmp .ne 7, 3) := by decide +kernel
theorem dX12_many_171 : decode cX12_many 171 = .ok (.iconst 1, 1) := by decide +kernel
theorem dX12_many_172 : decode cX12_many 172 = .ok (.goto 4, 3) := by decide +kernel
theorem dX12_many_175 : decode cX12_many 175 = .ok (.iconst 0, 1) := by decide +kernel
theorem dX12_many_176 : decode cX12_many 176 = .ok (.istore 5, 2) := by decide +kernel
theorem dX12_many_178 : decode cX12_many 178 = .ok (.iinc 7 1, 3) := by decide +kernel
theorem dX12_many_181 : decode cX12_many 181 = .ok (.goto (-78), 3) := by decide +kernel
theorem dX12_many_184 : decode cX12_many 184 = .ok (.iload_n 3, 1) := by decide +kernel
theorem dX12_many_185 : decode cX12_many 185 = .ok (.ifCond .eq 12, 3) := by decide +kernel
theorem dX12_many_188 : decode cX12_many 188 = .ok (.iload 5, 2) := by decide +kernel
theorem dX12_many_190 : decode cX12_many 190 = .ok (.ifCond .ne 7, 3) := by decide +kernel
theorem dX12_many_193 : decode cX12_many 193 = .ok (.iconst 1, 1) := by decide +kernel
theorem dX12_many_194 : decode cX12_many 194 = .ok (.goto 4, 3) := by decide +kernel
theorem dX12_many_197 : decode cX12_many 197 = .ok (.iconst 0, 1) := by decide +kernel
theorem dX12_many_198 : decode cX12_many 198 = .ok (.istore_n 3, 1) := by decide +kernel
theorem dX12_many_199 : decode cX12_many 199 = .ok (.iinc 4 1, 3) := by decide +kernel
theorem dX12_many_202 : decode cX12_many 202 = .ok (.goto (-130), 3) := by decide +kernel
theorem dX12_many_205 : decode cX12_many 205 = .ok (.return_, 1) := by decide +kernel
theorem dX12_fail_0 : decode cX12_fail 0 = .ok (.aload_n 0, 1) := by decide +kernel
theorem dX12_fail_1 : decode cX12_fail 1 = .ok (.getfield 370, 3) := by decide +kernel
theorem dX12_fail_4 : decode cX12_fail 4 = .ok (.ifCond .ne 59, 3) := by decide +kernel
theorem dX12_fail_7 : decode cX12_fail 7 = .ok (.aload_n 0, 1) := by decide +kernel
theorem dX12_fail_8 : decode cX12_fail 8 = .ok (.aload_n 0, 1) := by decide +kernel
theorem dX12_fail_9 : decode cX12_fail 9 = .ok (.getfield 285, 3) := by decide +kernel
theorem dX12_fail_12 : decode cX12_fail 12 = .ok (.iconst 1, 1) := by decide +kernel
theorem dX12_fail_13 : decode cX12_fail 13 = .ok (.if_icmp .ne 7, 3) := by decide +kernel
theorem dX12_fail_16 : decode cX12_fail 16 = .ok (.iload_n 1, 1) := by decide +kernel
theorem dX12_fail_17 : decode cX12_fail 17 = .ok (.goto 36, 3) := by decide +kernel
theorem dX12_fail_20 : decode cX12_fail 20 = .ok (.iload_n 1, 1) := by decide +kernel
theorem dX12_fail_21 : decode cX12_fail 21 = .ok (.bipush 13, 2) := by decide +kernel
theorem dX12_fail_23 : decode cX12_fail 23 = .ok (.if_icmp .ne 7, 3) := by decide +kernel
theorem dX12_fail_26 : decode cX12_fail 26 = .ok (.iconst 5, 1) := by decide +kernel
theorem dX12_fail_27 : decode cX12_fail 27 = .ok (.goto 26, 3) := by decide +kernel
theorem dX12_fail_30 : decode cX12_fail 30 = .ok (.iload_n 1, 1) := by decide +kernel
theorem dX12_fail_31 : decode cX12_fail 31 = .ok (.bipush 6, 2) := by decide +kernel
theorem dX12_fail_33 : decode cX12_fail 33 = .ok (.if_icmp .eq 15, 3) := by decide +kernel
theorem dX12_fail_36 : decode cX12_fail 36 = .ok (.iload_n 1, 1) := by decide +kernel
theorem dX12_fail_37 : decode cX12_fail 37 = .ok (.bipush 17, 2) := by decide +kernel
theorem dX12_fail_39 : decode cX12_fail 39 = .ok (.if_icmp .eq 9, 3) := by decide +kernel
theorem dX12_fail_42 : decode cX12_fail 42 = .ok (.iload_n 1, 1) := by decide +kernel
theorem dX12_fail_43 : decode cX12_fail 43 = .ok (.bipush 18, 2) := by decide +kernel
theorem dX12_fail_45 : decode cX12_fail 45 = .ok (.if_icmp .ne 7, 3) := by decide +kernel
theorem dX12_fail_48 : decode cX12_fail 48 = .ok (.iconst 2, 1) := by decide +kernel
theorem dX12_fail_49 : decode cX12_fail 49 = .ok (.goto 4, 3) := by decide +kernel
theorem dX12_fail_52 : decode cX12_fail 52 = .ok (.iconst 3, 1) := by decide +kernel
theorem dX12_fail_53 : decode cX12_fail 53 = .ok (.putfield 370, 3) := by decide +kernel
theorem dX12_fail_56 : decode cX12_fail 56 = .ok (.aload_n 0, 1) := by decide +kernel
theorem dX12_fail_57 : decode cX12_fail 57 = .ok (.iload_n 2, 1) := by decide +kernel
theorem dX12_fail_58 : decode cX12_fail 58 = .ok (.iconst 1, 1) := by decide +kernel
theorem dX12_fail_59 : decode cX12_fail 59 = .ok (.iadd, 1) := by decide +kernel
theorem dX12_fail_60 : decode cX12_fail 60 = .ok (.putfield 373, 3) := by decide +kernel
theorem dX12_fail_63 : decode cX12_fail 63 = .ok (.return_, 1) := by decide +kernel
theorem dX12_isMaking_0 : decode cX12_isMaking 0 = .ok (.aload_n 0, 1) := by decide +kernel
theorem dX12_isMaking_1 : decode cX12_isMaking 1 = .ok (.aload_n 0, 1) := by decide +kernel
theorem dX12_isMaking_2 : decode cX12_isMaking 2 = .ok (.getfield 101, 3) := by decide +kernel
theorem dX12_isMaking_5 : decode cX12_isMaking 5 = .ok (.bipush 16, 2) := by decide +kernel
theorem dX12_isMaking_7 : decode cX12_isMaking 7 = .ok (.iload_n 1, 1) := by decide +kernel
theorem dX12_isMaking_8 : decode cX12_isMaking 8 = .ok (.imul, 1) := by decide +kernel
theorem dX12_isMaking_9 : decode cX12_isMaking 9 = .ok (.aload_n 0, 1) := by decide +kernel
theorem dX12_isMaking_10 : decode cX12_isMaking 10 = .ok (.getfield 104, 3) := by decide +kernel
theorem dX12_isMaking_13 : decode cX12_isMaking 13 = .ok (.iload_n 1, 1) := by decide +kernel
theorem dX12_isMaking_14 : decode cX12_isMaking 14 = .ok (.iaload, 1) := by decide +kernel
theorem dX12_isMaking_15 : decode cX12_isMaking 15 = .ok (.iconst 2, 1) := by decide +kernel
theorem dX12_isMaking_16 : decode cX12_isMaking 16 = .ok (.invokevirtual 323, 3) := by decide +kernel
theorem dX12_isMaking_19 : decode cX12_isMaking 19 = .ok (.istore 5, 2) := by decide +kernel
theorem dX12_isMaking_21 : decode cX12_isMaking 21 = .ok (.iload 5, 2) := by decide +kernel
theorem dX12_isMaking_23 : decode cX12_isMaking 23 = .ok (.ifCond .lt 96, 3) := by decide +kernel
theorem dX12_isMaking_26 : decode cX12_isMaking 26 = .ok (.aload_n 0, 1) := by decide +kernel
theorem dX12_isMaking_27 : decode cX12_isMaking 27 = .ok (.getfield 46, 3) := by decide +kernel
theorem dX12_isMaking_30 : decode cX12_isMaking 30 = .ok (.iload 5, 2) := by decide +kernel
theorem dX12_isMaking_32 : decode cX12_isMaking 32 = .ok (.baload, 1) := by decide +kernel
theorem dX12_isMaking_33 : decode cX12_isMaking 33 = .ok (.ifCond .eq 86, 3) := by decide +kernel
theorem dX12_isMaking_36 : decode cX12_isMaking 36 = .ok (.aload_n 0, 1) := by decide +kernel
theorem dX12_isMaking_37 : decode cX12_isMaking 37 = .ok (.getfield 43, 3) := by decide +kernel
theorem dX12_isMaking_40 : decode cX12_isMaking 40 = .ok (.iload 5, 2) := by decide +kernel
theorem dX12_isMaking_42 : decode cX12_isMaking 42 = .ok (.iaload, 1) := by decide +kernel
theorem dX12_isMaking_43 : decode cX12_isMaking 43 = .ok (.iload_n 2, 1) := by decide +kernel
theorem dX12_isMaking_44 : decode cX12_isMaking 44 = .ok (.if_icmp .ne 75, 3) := by decide +kernel
theorem dX12_isMaking_47 : decode cX12_isMaking 47 = .ok (.aload_n 0, 1) := by decide +kernel
theorem dX12_isMaking_48 : decode cX12_isMaking 48 = .ok (.getfield 104, 3) := by decide +kernel
theorem dX12_isMaking_51 : decode cX12_isMaking 51 = .ok (.iload_n 1, 1) := by decide +kernel
theorem dX12_isMaking_52 : decode cX12_isMaking 52 = .ok (.iaload, 1) := by decide +kernel
theorem dX12_isMaking_53 : decode cX12_isMaking 53 = .ok (.aload_n 0, 1) := by decide +kernel
theorem dX12_isMaking_54 : decode cX12_isMaking 54 = .ok (.getfield 28, 3) := by decide +kernel
theorem dX12_isMaking_57 : decode cX12_isMaking 57 = .ok (.iload 5, 2) := by decide +kernel
theorem dX12_isMaking_59 : decode cX12_isMaking 59 = .ok (.iaload, 1) := by decide +kernel
theorem dX12_isMaking_60 : decode cX12_isMaking 60 = .ok (.iconst 1, 1) := by decide +kernel
theorem dX12_isMaking_61 : decode cX12_isMaking 61 = .ok (.iadd, 1) := by decide +kernel
theorem dX12_isMaking_62 : decode cX12_isMaking 62 = .ok (.if_icmp .ne 57, 3) := by decide +kernel
theorem dX12_isMaking_65 : decode cX12_isMaking 65 = .ok (.aload_n 0, 1) := by decide +kernel
theorem dX12_isMaking_66 : decode cX12_isMaking 66 = .ok (.getfield 101, 3) := by decide +kernel
theorem dX12_isMaking_69 : decode cX12_isMaking 69 = .ok (.bipush 16, 2) := by decide +kernel
theorem dX12_isMaking_71 : decode cX12_isMaking 71 = .ok (.iload_n 1, 1) := by decide +kernel
theorem dX12_isMaking_72 : decode cX12_isMaking 72 = .ok (.imul, 1) := by decide +kernel
theorem dX12_isMaking_73 : decode cX12_isMaking 73 = .ok (.aload_n 0, 1) := by decide +kernel
theorem dX12_isMaking_74 : decode cX12_isMaking 74 = .ok (.getfield 28, 3) := by decide +kernel
theorem dX12_isMaking_77 : decode cX12_isMaking 77 = .ok (.iload 5, 2) := by decide +kernel
theorem dX12_isMaking_79 : decode cX12_isMaking 79 = .ok (.iaload, 1) := by decide +kernel
theorem dX12_isMaking_80 : decode cX12_isMaking 80 = .ok (.iadd, 1) := by decide +kernel
theorem dX12_isMaking_81 : decode cX12_isMaking 81 = .ok (.laload, 1) := by decide +kernel
theorem dX12_isMaking_82 : decode cX12_isMaking 82 = .ok (.lload_n 3, 1) := by decide +kernel
theorem dX12_isMaking_83 : decode cX12_isMaking 83 = .ok (.lcmp, 1) := by decide +kernel
theorem dX12_isMaking_84 : decode cX12_isMaking 84 = .ok (.ifCond .ne 35, 3) := by decide +kernel
theorem dX12_isMaking_87 : decode cX12_isMaking 87 = .ok (.aload_n 0, 1) := by decide +kernel
theorem dX12_isMaking_88 : decode cX12_isMaking 88 = .ok (.getfield 107, 3) := by decide +kernel
theorem dX12_isMaking_91 : decode cX12_isMaking 91 = .ok (.iload_n 1, 1) := by decide +kernel
theorem dX12_isMaking_92 : decode cX12_isMaking 92 = .ok (.iaload, 1) := by decide +kernel
theorem dX12_isMaking_93 : decode cX12_isMaking 93 = .ok (.iconst 2, 1) := by decide +kernel
theorem dX12_isMaking_94 : decode cX12_isMaking 94 = .ok (.if_icmp .ne 25, 3) := by decide +kernel
theorem dX12_isMaking_97 : decode cX12_isMaking 97 = .ok (.aload_n 0, 1) := by decide +kernel
theorem dX12_isMaking_98 : decode cX12_isMaking 98 = .ok (.getfield 110, 3) := by decide +kernel
theorem dX12_isMaking_101 : decode cX12_isMaking 101 = .ok (.iload_n 1, 1) := by decide +kernel
theorem dX12_isMaking_102 : decode cX12_isMaking 102 = .ok (.laload, 1) := by decide +kernel
theorem dX12_isMaking_103 : decode cX12_isMaking 103 = .ok (.ldc2_w 253, 3) := by decide +kernel
theorem dX12_isMaking_106 : decode cX12_isMaking 106 = .ok (.ldc2_w 417, 3) := by decide +kernel
theorem dX12_isMaking_109 : decode cX12_isMaking 109 = .ok (.invokestatic 142, 3) := by decide +kernel
theorem dX12_isMaking_112 : decode cX12_isMaking 112 = .ok (.ifCond .eq 7, 3) := by decide +kernel
theorem dX12_isMaking_115 : decode cX12_isMaking 115 = .ok (.iconst 1, 1) := by decide +kernel
theorem dX12_isMaking_116 : decode cX12_isMaking 116 = .ok (.goto 4, 3) := by decide +kernel
theorem dX12_isMaking_119 : decode cX12_isMaking 119 = .ok (.iconst 0, 1) := by decide +kernel
theorem dX12_isMaking_120 : decode cX12_isMaking 120 = .ok (.ireturn, 1) := by decide +kernel
theorem dX12_check_0 : decode cX12_check 0 = .ok (.aload_n 0, 1) := by decide +kernel
theorem dX12_check_1 : decode cX12_check 1 = .ok (.aload_n 0, 1) := by decide +kernel
theorem dX12_check_2 : decode cX12_check 2 = .ok (.getfield 101, 3) := by decide +kernel
theorem dX12_check_5 : decode cX12_check 5 = .ok (.bipush 16, 2) := by decide +kernel
theorem dX12_check_7 : decode cX12_check 7 = .ok (.iload_n 1, 1) := by decide +kernel
theorem dX12_check_8 : decode cX12_check 8 = .ok (.imul, 1) := by decide +kernel
theorem dX12_check_9 : decode cX12_check 9 = .ok (.aload_n 0, 1) := by decide +kernel
theorem dX12_check_10 : decode cX12_check 10 = .ok (.getfield 104, 3) := by decide +kernel
theorem dX12_check_13 : decode cX12_check 13 = .ok (.iload_n 1, 1) := by decide +kernel
theorem dX12_check_14 : decode cX12_check 14 = .ok (.iaload, 1) := by decide +kernel
theorem dX12_check_15 : decode cX12_check 15 = .ok (.iconst 2, 1) := by decide +kernel
theorem dX12_check_16 : decode cX12_check 16 = .ok (.invokevirtual 323, 3) := by decide +kernel
theorem dX12_check_19 : decode cX12_check 19 = .ok (.istore_n 2, 1) := by decide +kernel
theorem dX12_check_20 : decode cX12_check 20 = .ok (.aload_n 0, 1) := by decide +kernel
theorem dX12_check_21 : decode cX12_check 21 = .ok (.aload_n 0, 1) := by decide +kernel
theorem dX12_check_22 : decode cX12_check 22 = .ok (.getfield 101, 3) := by decide +kernel
theorem dX12_check_25 : decode cX12_check 25 = .ok (.bipush 16, 2) := by decide +kernel
theorem dX12_check_27 : decode cX12_check 27 = .ok (.iload_n 1, 1) := by decide +kernel
theorem dX12_check_28 : decode cX12_check 28 = .ok (.imul, 1) := by decide +kernel
theorem dX12_check_29 : decode cX12_check 29 = .ok (.aload_n 0, 1) := by decide +kernel
theorem dX12_check_30 : decode cX12_check 30 = .ok (.getfield 104, 3) := by decide +kernel
theorem dX12_check_33 : decode cX12_check 33 = .ok (.iload_n 1, 1) := by decide +kernel
theorem dX12_check_34 : decode cX12_check 34 = .ok (.iaload, 1) := by decide +kernel
theorem dX12_check_35 : decode cX12_check 35 = .ok (.invokevirtual 327, 3) := by decide +kernel
theorem dX12_check_38 : decode cX12_check 38 = .ok (.ifCond .ne 11, 3) := by decide +kernel
theorem dX12_check_41 : decode cX12_check 41 = .ok (.aload_n 0, 1) := by decide +kernel
theorem dX12_check_42 : decode cX12_check 42 = .ok (.bipush 6, 2) := by decide +kernel
theorem dX12_check_44 : decode cX12_check 44 = .ok (.iload_n 1, 1) := by decide +kernel
theorem dX12_check_45 : decode cX12_check 45 = .ok (.invokevirtual 419, 3) := by decide +kernel
theorem dX12_check_48 : decode cX12_check 48 = .ok (.return_, 1) := by decide +kernel
theorem dX12_check_49 : decode cX12_check 49 = .ok (.iload_n 2, 1) := by decide +kernel
theorem dX12_check_50 : decode cX12_check 50 = .ok (.ifCond .ge 11, 3) := by decide +kernel
theorem dX12_check_53 : decode cX12_check 53 = .ok (.aload_n 0, 1) := by decide +kernel
theorem dX12_check_54 : decode cX12_check 54 = .ok (.bipush 17, 2) := by decide +kernel
theorem dX12_check_56 : decode cX12_check 56 = .ok (.iload_n 1, 1) := by decide +kernel
theorem dX12_check_57 : decode cX12_check 57 = .ok (.invokevirtual 419, 3) := by decide +kernel
theorem dX12_check_60 : decode cX12_check 60 = .ok (.return_, 1) := by decide +kernel
theorem dX12_check_61 : decode cX12_check 61 = .ok (.aload_n 0, 1) := by decide +kernel
theorem dX12_check_62 : decode cX12_check 62 = .ok (.getfield 31, 3) := by decide +kernel
theorem dX12_check_65 : decode cX12_check 65 = .ok (.iload_n 2, 1) := by decide +kernel
theorem dX12_check_66 : decode cX12_check 66 = .ok (.iaload, 1) := by decide +kernel
theorem dX12_check_67 : decode cX12_check 67 = .ok (.istore_n 3, 1) := by decide +kernel
theorem dX12_check_68 : decode cX12_check 68 = .ok (.aload_n 0, 1) := by decide +kernel
theorem dX12_check_69 : decode cX12_check 69 = .ok (.getfield 110, 3) := by decide +kernel
theorem dX12_check_72 : decode cX12_check 72 = .ok (.iload_n 1, 1) := by decide +kernel
theorem dX12_check_73 : decode cX12_check 73 = .ok (.laload, 1) := by decide +kernel
theorem dX12_check_74 : decode cX12_check 74 = .ok (.lstore 4, 2) := by decide +kernel
theorem dX12_check_76 : decode cX12_check 76 = .ok (.aload_n 0, 1) := by decide +kernel
theorem dX12_check_77 : decode cX12_check 77 = .ok (.getfield 107, 3) := by decide +kernel
theorem dX12_check_80 : decode cX12_check 80 = .ok (.iload_n 1, 1) := by decide +kernel
theorem dX12_check_81 : decode cX12_check 81 = .ok (.iaload, 1) := by decide +kernel
theorem dX12_check_82 : decode cX12_check 82 = .ok (.iload_n 3, 1) := by decide +kernel
theorem dX12_check_83 : decode cX12_check 83 = .ok (.if_icmp .eq 13, 3) := by decide +kernel
theorem dX12_check_86 : decode cX12_check 86 = .ok (.aload_n 0, 1) := by decide +kernel
theorem dX12_check_87 : decode cX12_check 87 = .ok (.bipush 7, 2) := by decide +kernel
theorem dX12_check_89 : decode cX12_check 89 = .ok (.iload_n 1, 1) := by decide +kernel
theorem dX12_check_90 : decode cX12_check 90 = .ok (.invokevirtual 419, 3) := by decide +kernel
theorem dX12_check_93 : decode cX12_check 93 = .ok (.goto 138, 3) := by decide +kernel
theorem dX12_check_96 : decode cX12_check 96 = .ok (.iload_n 3, 1) := by decide +kernel
theorem dX12_check_97 : decode cX12_check 97 = .ok (.iconst 4, 1) := by decide +kernel
theorem dX12_check_98 : decode cX12_check 98 = .ok (.if_icmp .ne 38, 3) := by decide +kernel
theorem dX12_check_101 : decode cX12_check 101 = .ok (.aload_n 0, 1) := by decide +kernel
theorem dX12_check_102 : decode cX12_check 102 = .ok (.getfield 116, 3) := by decide +kernel
theorem dX12_check_105 : decode cX12_check 105 = .ok (.iload_n 1, 1) := by decide +kernel
theorem dX12_check_106 : decode cX12_check 106 = .ok (.iaload, 1) := by decide +kernel
theorem dX12_check_107 : decode cX12_check 107 = .ok (.i2l, 1) := by decide +kernel
theorem dX12_check_108 : decode cX12_check 108 = .ok (.aload_n 0, 1) := by decide +kernel
theorem dX12_check_109 : decode cX12_check 109 = .ok (.getfield 37, 3) := by decide +kernel
theorem dX12_check_112 : decode cX12_check 112 = .ok (.iload_n 2, 1) := by decide +kernel
theorem dX12_check_113 : decode cX12_check 113 = .ok (.laload, 1) := by decide +kernel
theorem dX12_check_114 : decode cX12_check 114 = .ok (.aload_n 0, 1) := by decide +kernel
theorem dX12_check_115 : decode cX12_check 115 = .ok (.getfield 40, 3) := by decide +kernel
theorem dX12_check_118 : decode cX12_check 118 = .ok (.iload_n 2, 1) := by decide +kernel
theorem dX12_check_119 : decode cX12_check 119 = .ok (.laload, 1) := by decide +kernel
theorem dX12_check_120 : decode cX12_check 120 = .ok (.invokestatic 142, 3) := by decide +kernel
theorem dX12_check_123 : decode cX12_check 123 = .ok (.ifCond .ne 13, 3) := by decide +kernel
theorem dX12_check_126 : decode cX12_check 126 = .ok (.aload_n 0, 1) := by decide +kernel
theorem dX12_check_127 : decode cX12_check 127 = .ok (.bipush 8, 2) := by decide +kernel
theorem dX12_check_129 : decode cX12_check 129 = .ok (.iload_n 1, 1) := by decide +kernel
theorem dX12_check_130 : decode cX12_check 130 = .ok (.invokevirtual 419, 3) := by decide +kernel
theorem dX12_check_133 : decode cX12_check 133 = .ok (.goto 98, 3) := by decide +kernel
theorem dX12_check_136 : decode cX12_check 136 = .ok (.aload_n 0, 1) := by decide +kernel
theorem dX12_check_137 : decode cX12_check 137 = .ok (.getfield 46, 3) := by decide +kernel
theorem dX12_check_140 : decode cX12_check 140 = .ok (.iload_n 2, 1) := by decide +kernel
theorem dX12_check_141 : decode cX12_check 141 = .ok (.baload, 1) := by decide +kernel
theorem dX12_check_142 : decode cX12_check 142 = .ok (.ifCond .eq 36, 3) := by decide +kernel
theorem dX12_check_145 : decode cX12_check 145 = .ok (.lload 4, 2) := by decide +kernel
theorem dX12_check_147 : decode cX12_check 147 = .ok (.lconst 1, 1) := by decide +kernel
theorem dX12_check_148 : decode cX12_check 148 = .ok (.lcmp, 1) := by decide +kernel
theorem dX12_check_149 : decode cX12_check 149 = .ok (.ifCond .eq 76, 3) := by decide +kernel
theorem dX12_check_152 : decode cX12_check 152 = .ok (.lload 4, 2) := by decide +kernel
theorem dX12_check_154 : decode cX12_check 154 = .ok (.ldc2_w 154, 3) := by decide +kernel
theorem dX12_check_157 : decode cX12_check 157 = .ok (.lcmp, 1) := by decide +kernel
theorem dX12_check_158 : decode cX12_check 158 = .ok (.ifCond .eq 67, 3) := by decide +kernel
theorem dX12_check_161 : decode cX12_check 161 = .ok (.lload 4, 2) := by decide +kernel
theorem dX12_check_163 : decode cX12_check 163 = .ok (.ldc2_w 253, 3) := by decide +kernel
theorem dX12_check_166 : decode cX12_check 166 = .ok (.ldc2_w 194, 3) := by decide +kernel
theorem dX12_check_169 : decode cX12_check 169 = .ok (.invokestatic 142, 3) := by decide +kernel
theorem dX12_check_172 : decode cX12_check 172 = .ok (.ifCond .ne 53, 3) := by decide +kernel
theorem dX12_check_175 : decode cX12_check 175 = .ok (.goto 40, 3) := by decide +kernel
theorem dX12_check_178 : decode cX12_check 178 = .ok (.iload_n 3, 1) := by decide +kernel
theorem dX12_check_179 : decode cX12_check 179 = .ok (.iconst 2, 1) := by decide +kernel
theorem dX12_check_180 : decode cX12_check 180 = .ok (.if_icmp .eq 15, 3) := by decide +kernel
theorem dX12_check_183 : decode cX12_check 183 = .ok (.iload_n 3, 1) := by decide +kernel
theorem dX12_check_184 : decode cX12_check 184 = .ok (.bipush 66, 2) := by decide +kernel
theorem dX12_check_186 : decode cX12_check 186 = .ok (.if_icmp .eq 9, 3) := by decide +kernel
theorem dX12_check_189 : decode cX12_check 189 = .ok (.iload_n 3, 1) := by decide +kernel
theorem dX12_check_190 : decode cX12_check 190 = .ok (.bipush 67, 2) := by decide +kernel
theorem dX12_check_192 : decode cX12_check 192 = .ok (.if_icmp .ne 33, 3) := by decide +kernel
theorem dX12_check_195 : decode cX12_check 195 = .ok (.lload 4, 2) := by decide +kernel
theorem dX12_check_197 : decode cX12_check 197 = .ok (.aload_n 0, 1) := by decide +kernel
theorem dX12_check_198 : decode cX12_check 198 = .ok (.getfield 37, 3) := by decide +kernel
theorem dX12_check_201 : decode cX12_check 201 = .ok (.iload_n 2, 1) := by decide +kernel
theorem dX12_check_202 : decode cX12_check 202 = .ok (.laload, 1) := by decide +kernel
theorem dX12_check_203 : decode cX12_check 203 = .ok (.aload_n 0, 1) := by decide +kernel
theorem dX12_check_204 : decode cX12_check 204 = .ok (.getfield 40, 3) := by decide +kernel
theorem dX12_check_207 : decode cX12_check 207 = .ok (.iload_n 2, 1) := by decide +kernel
theorem dX12_check_208 : decode cX12_check 208 = .ok (.laload, 1) := by decide +kernel
theorem dX12_check_209 : decode cX12_check 209 = .ok (.invokestatic 142, 3) := by decide +kernel
theorem dX12_check_212 : decode cX12_check 212 = .ok (.ifCond .ne 13, 3) := by decide +kernel
theorem dX12_check_215 : decode cX12_check 215 = .ok (.aload_n 0, 1) := by decide +kernel
theorem dX12_check_216 : decode cX12_check 216 = .ok (.bipush 10, 2) := by decide +kernel
theorem dX12_check_218 : decode cX12_check 218 = .ok (.iload_n 1, 1) := by decide +kernel
theorem dX12_check_219 : decode cX12_check 219 = .ok (.invokevirtual 419, 3) := by decide +kernel
theorem dX12_check_222 : decode cX12_check 222 = .ok (.goto 9, 3) := by decide +kernel
theorem dX12_check_225 : decode cX12_check 225 = .ok (.aload_n 0, 1) := by decide +kernel
theorem dX12_check_226 : decode cX12_check 226 = .ok (.iload_n 1, 1) := by decide +kernel
theorem dX12_check_227 : decode cX12_check 227 = .ok (.iload_n 2, 1) := by decide +kernel
theorem dX12_check_228 : decode cX12_check 228 = .ok (.invokevirtual 422, 3) := by decide +kernel
theorem dX12_check_231 : decode cX12_check 231 = .ok (.return_, 1) := by decide +kernel
theorem dX12_checkPlace_0 : decode cX12_checkPlace 0 = .ok (.aload_n 0, 1) := by decide +kernel
theorem dX12_checkPlace_1 : decode cX12_checkPlace 1 = .ok (.getfield 104, 3) := by decide +kernel
theorem dX12_checkPlace_4 : decode cX12_checkPlace 4 = .ok (.iload_n 1, 1) := by decide +kernel
theorem dX12_checkPlace_5 : decode cX12_checkPlace 5 = .ok (.iaload, 1) := by decide +kernel
theorem dX12_checkPlace_6 : decode cX12_checkPlace 6 = .ok (.aload_n 0, 1) := by decide +kernel
theorem dX12_checkPlace_7 : decode cX12_checkPlace 7 = .ok (.getfield 28, 3) := by decide +kernel
theorem dX12_checkPlace_10 : decode cX12_checkPlace 10 = .ok (.iload_n 2, 1) := by decide +kernel
theorem dX12_checkPlace_11 : decode cX12_checkPlace 11 = .ok (.iaload, 1) := by decide +kernel
theorem dX12_checkPlace_12 : decode cX12_checkPlace 12 = .ok (.iconst 1, 1) := by decide +kernel
theorem dX12_checkPlace_13 : decode cX12_checkPlace 13 = .ok (.iadd, 1) := by decide +kernel
theorem dX12_checkPlace_14 : decode cX12_checkPlace 14 = .ok (.if_icmp .ne 22, 3) := by decide +kernel
theorem dX12_checkPlace_17 : decode cX12_checkPlace 17 = .ok (.aload_n 0, 1) := by decide +kernel
theorem dX12_checkPlace_18 : decode cX12_checkPlace 18 = .ok (.getfield 101, 3) := by decide +kernel
theorem dX12_checkPlace_21 : decode cX12_checkPlace 21 = .ok (.bipush 16, 2) := by decide +kernel
theorem dX12_checkPlace_23 : decode cX12_checkPlace 23 = .ok (.iload_n 1, 1) := by decide +kernel
theorem dX12_checkPlace_24 : decode cX12_checkPlace 24 = .ok (.imul, 1) := by decide +kernel
theorem dX12_checkPlace_25 : decode cX12_checkPlace 25 = .ok (.aload_n 0, 1) := by decide +kernel
theorem dX12_checkPlace_26 : decode cX12_checkPlace 26 = .ok (.getfield 28, 3) := by decide +kernel
theorem dX12_checkPlace_29 : decode cX12_checkPlace 29 = .ok (.iload_n 2, 1) := by decide +kernel
theorem dX12_checkPlace_30 : decode cX12_checkPlace 30 = .ok (.iaload, 1) := by decide +kernel
theorem dX12_checkPlace_31 : decode cX12_checkPlace 31 = .ok (.iadd, 1) := by decide +kernel
theorem dX12_checkPlace_32 : decode cX12_checkPlace 32 = .ok (.laload, 1) := by decide +kernel
theorem dX12_checkPlace_33 : decode cX12_checkPlace 33 = .ok (.goto 6, 3) := by decide +kernel
theorem dX12_checkPlace_36 : decode cX12_checkPlace 36 = .ok (.ldc2_w 149, 3) := by decide +kernel
theorem dX12_checkPlace_39 : decode cX12_checkPlace 39 = .ok (.lstore_n 3, 1) := by decide +kernel
theorem dX12_checkPlace_40 : decode cX12_checkPlace 40 = .ok (.aload_n 0, 1) := by decide +kernel
theorem dX12_checkPlace_41 : decode cX12_checkPlace 41 = .ok (.getfield 43, 3) := by decide +kernel
theorem dX12_checkPlace_44 : decode cX12_checkPlace 44 = .ok (.iload_n 2, 1) := by decide +kernel
theorem dX12_checkPlace_45 : decode cX12_checkPlace 45 = .ok (.iaload, 1) := by decide +kernel
theorem dX12_checkPlace_46 : decode cX12_checkPlace 46 = .ok (.istore 5, 2) := by decide +kernel
theorem dX12_checkPlace_48 : decode cX12_checkPlace 48 = .ok (.iload 5, 2) := by decide +kernel
theorem dX12_checkPlace_50 : decode cX12_checkPlace 50 = .ok (.ifCond .ge 12, 3) := by decide +kernel
theorem dX12_checkPlace_53 : decode cX12_checkPlace 53 = .ok (.lload_n 3, 1) := by decide +kernel
theorem dX12_checkPlace_54 : decode cX12_checkPlace 54 = .ok (.lconst 0, 1) := by decide +kernel
theorem dX12_checkPlace_55 : decode cX12_checkPlace 55 = .ok (.lcmp, 1) := by decide +kernel
theorem dX12_checkPlace_56 : decode cX12_checkPlace 56 = .ok (.ifCond .eq 25, 3) := by decide +kernel
theorem dX12_checkPlace_59 : decode cX12_checkPlace 59 = .ok (.goto 14, 3) := by decide +kernel
theorem dX12_checkPlace_62 : decode cX12_checkPlace 62 = .ok (.lload_n 3, 1) := by decide +kernel
theorem dX12_checkPlace_63 : decode cX12_checkPlace 63 = .ok (.lconst 1, 1) := by decide +kernel
theorem dX12_checkPlace_64 : decode cX12_checkPlace 64 = .ok (.ldc2_w 213, 3) := by decide +kernel
theorem dX12_checkPlace_67 : decode cX12_checkPlace 67 = .ok (.invokestatic 142, 3) := by decide +kernel
theorem dX12_checkPlace_70 : decode cX12_checkPlace 70 = .ok (.ifCond .ne 11, 3) := by decide +kernel
theorem dX12_checkPlace_73 : decode cX12_checkPlace 73 = .ok (.aload_n 0, 1) := by decide +kernel
theorem dX12_checkPlace_74 : decode cX12_checkPlace 74 = .ok (.bipush 11, 2) := by decide +kernel
theorem dX12_checkPlace_76 : decode cX12_checkPlace 76 = .ok (.iload_n 1, 1) := by decide +kernel
theorem dX12_checkPlace_77 : decode cX12_checkPlace 77 = .ok (.invokevirtual 419, 3) := by decide +kernel
theorem dX12_checkPlace_80 : decode cX12_checkPlace 80 = .ok (.return_, 1) := by decide +kernel
theorem dX12_checkPlace_81 : decode cX12_checkPlace 81 = .ok (.iload 5, 2) := by decide +kernel
theorem dX12_checkPlace_83 : decode cX12_checkPlace 83 = .ok (.ifCond .ge 4, 3) := by decide +kernel
theorem dX12_checkPlace_86 : decode cX12_checkPlace 86 = .ok (.return_, 1) := by decide +kernel
theorem dX12_checkPlace_87 : decode cX12_checkPlace 87 = .ok (.aload_n 0, 1) := by decide +kernel
theorem dX12_checkPlace_88 : decode cX12_checkPlace 88 = .ok (.iload 5, 2) := by decide +kernel
theorem dX12_checkPlace_90 : decode cX12_checkPlace 90 = .ok (.lload_n 3, 1) := by decide +kernel
theorem dX12_checkPlace_91 : decode cX12_checkPlace 91 = .ok (.invokevirtual 196, 3) := by decide +kernel
theorem dX12_checkPlace_94 : decode cX12_checkPlace 94 = .ok (.ifCond .lt 7, 3) := by decide +kernel
theorem dX12_checkPlace_97 : decode cX12_checkPlace 97 = .ok (.iconst 1, 1) := by decide +kernel
theorem dX12_checkPlace_98 : decode cX12_checkPlace 98 = .ok (.goto 4, 3) := by decide +kernel
theorem dX12_checkPlace_101 : decode cX12_checkPlace 101 = .ok (.iconst 0, 1) := by decide +kernel
theorem dX12_checkPlace_102 : decode cX12_checkPlace 102 = .ok (.istore 6, 2) := by decide +kernel
theorem dX12_checkPlace_104 : decode cX12_checkPlace 104 = .ok (.iconst 0, 1) := by decide +kernel
theorem dX12_checkPlace_105 : decode cX12_checkPlace 105 = .ok (.istore 7, 2) := by decide +kernel
theorem dX12_checkPlace_107 : decode cX12_checkPlace 107 = .ok (.iconst 0, 1) := by decide +kernel
theorem dX12_checkPlace_108 : decode cX12_checkPlace 108 = .ok (.istore 8, 2) := by decide +kernel
theorem dX12_checkPlace_110 : decode cX12_checkPlace 110 = .ok (.aload_n 0, 1) := by decide +kernel
theorem dX12_checkPlace_111 : decode cX12_checkPlace 111 = .ok (.getfield 74, 3) := by decide +kernel
theorem dX12_checkPlace_114 : decode cX12_checkPlace 114 = .ok (.iload 5, 2) := by decide +kernel
theorem dX12_checkPlace_116 : decode cX12_checkPlace 116 = .ok (.iaload, 1) := by decide +kernel
theorem dX12_checkPlace_117 : decode cX12_checkPlace 117 = .ok (.istore 9, 2) := by decide +kernel
theorem dX12_checkPlace_119 : decode cX12_checkPlace 119 = .ok (.iconst 0, 1) := by decide +kernel
theorem dX12_checkPlace_120 : decode cX12_checkPlace 120 = .ok (.istore 10, 2) := by decide +kernel
theorem dX12_checkPlace_122 : decode cX12_checkPlace 122 = .ok (.iload 10, 2) := by decide +kernel
theorem dX12_checkPlace_124 : decode cX12_checkPlace 124 = .ok (.aload_n 0, 1) := by decide +kernel
theorem dX12_checkPlace_125 : decode cX12_checkPlace 125 = .ok (.getfield 276, 3) := by decide +kernel
theorem dX12_checkPlace_128 : decode cX12_checkPlace 128 = .ok (.if_icmp .ge 63, 3) := by decide +kernel
theorem dX12_checkPlace_131 : decode cX12_checkPlace 131 = .ok (.iload 7, 2) := by decide +kernel
theorem dX12_checkPlace_133 : decode cX12_checkPlace 133 = .ok (.ifCond .ne 15, 3) := by decide +kernel
theorem dX12_checkPlace_136 : decode cX12_checkPlace 136 = .ok (.aload_n 0, 1) := by decide +kernel
theorem dX12_checkPlace_137 : decode cX12_checkPlace 137 = .ok (.iload 10, 2) := by decide +kernel
theorem dX12_checkPlace_139 : decode cX12_checkPlace 139 = .ok (.iload 5, 2) := by decide +kernel
theorem dX12_checkPlace_141 : decode cX12_checkPlace 141 = .ok (.lload_n 3, 1) := by decide +kernel
theorem dX12_checkPlace_142 : decode cX12_checkPlace 142 = .ok (.invokevirtual 425, 3) := by decide +kernel
theorem dX12_checkPlace_145 : decode cX12_checkPlace 145 = .ok (.ifCond .eq 7, 3) := by decide +kernel
theorem dX12_checkPlace_148 : decode cX12_checkPlace 148 = .ok (.iconst 1, 1) := by decide +kernel
theorem dX12_checkPlace_149 : decode cX12_checkPlace 149 = .ok (.goto 4, 3) := by decide +kernel
theorem dX12_checkPlace_152 : decode cX12_checkPlace 152 = .ok (.iconst 0, 1) := by decide +kernel
theorem dX12_checkPlace_153 : decode cX12_checkPlace 153 = .ok (.istore 7, 2) := by decide +kernel
theorem dX12_checkPlace_155 : decode cX12_checkPlace 155 = .ok (.iload 8, 2) := by decide +kernel
theorem dX12_checkPlace_157 : decode cX12_checkPlace 157 = .ok (.ifCond .ne 21, 3) := by decide +kernel
theorem dX12_checkPlace_160 : decode cX12_checkPlace 160 = .ok (.iload 10, 2) := by decide +kernel
theorem dX12_checkPlace_162 : decode cX12_checkPlace 162 = .ok (.iload_n 1, 1) := by decide +kernel
theorem dX12_checkPlace_163 : decode cX12_checkPlace 163 = .ok (.if_icmp .ge 19, 3) := by decide +kernel
theorem dX12_checkPlace_166 : decode cX12_checkPlace 166 = .ok (.aload_n 0, 1) := by decide +kernel
theorem dX12_checkPlace_167 : decode cX12_checkPlace 167 = .ok (.iload 10, 2) := by decide +kernel
theorem dX12_checkPlace_169 : decode cX12_checkPlace 169 = .ok (.iload 5, 2) := by decide +kernel
theorem dX12_checkPlace_171 : decode cX12_checkPlace 171 = .ok (.lload_n 3, 1) := by decide +kernel
theorem dX12_checkPlace_172 : decode cX12_checkPlace 172 = .ok (.invokevirtual 425, 3) := by decide +kernel
theorem dX12_checkPlace_175 : decode cX12_checkPlace 175 = .ok (.ifCond .eq 7, 3) := by decide +kernel
theorem dX12_checkPlace_178 : decode cX12_checkPlace 178 = .ok (.iconst 1, 1) := by decide +kernel
theorem dX12_checkPlace_179 : decode cX12_checkPlace 179 = .ok (.goto 4, 3) := by decide +kernel
theorem dX12_checkPlace_182 : decode cX12_checkPlace 182 = .ok (.iconst 0, 1) := by decide +kernel
theorem dX12_checkPlace_183 : decode cX12_checkPlace 183 = .ok (.istore 8, 2) := by decide +kernel
theorem dX12_checkPlace_185 : decode cX12_checkPlace 185 = .ok (.iinc 10 1, 3) := by decide +kernel
theorem dX12_checkPlace_188 : decode cX12_checkPlace 188 = .ok (.goto (-66), 3) := by decide +kernel
theorem dX12_checkPlace_191 : decode cX12_checkPlace 191 = .ok (.iconst 0, 1) := by decide +kernel
theorem dX12_checkPlace_192 : decode cX12_checkPlace 192 = .ok (.istore 10, 2) := by decide +kernel
theorem dX12_checkPlace_194 : decode cX12_checkPlace 194 = .ok (.iload 10, 2) := by decide +kernel
theorem dX12_checkPlace_196 : decode cX12_checkPlace 196 = .ok (.iload_n 1, 1) := by decide +kernel
theorem dX12_checkPlace_197 : decode cX12_checkPlace 197 = .ok (.if_icmp .ge 99, 3) := by decide +kernel
theorem dX12_checkPlace_200 : decode cX12_checkPlace 200 = .ok (.aload_n 0, 1) := by decide +kernel
theorem dX12_checkPlace_201 : decode cX12_checkPlace 201 = .ok (.aload_n 0, 1) := by decide +kernel
theorem dX12_checkPlace_202 : decode cX12_checkPlace 202 = .ok (.getfield 101, 3) := by decide +kernel
theorem dX12_checkPlace_205 : decode cX12_checkPlace 205 = .ok (.bipush 16, 2) := by decide +kernel
theorem dX12_checkPlace_207 : decode cX12_checkPlace 207 = .ok (.iload 10, 2) := by decide +kernel
theorem dX12_checkPlace_209 : decode cX12_checkPlace 209 = .ok (.imul, 1) := by decide +kernel
theorem dX12_checkPlace_210 : decode cX12_checkPlace 210 = .ok (.aload_n 0, 1) := by decide +kernel
theorem dX12_checkPlace_211 : decode cX12_checkPlace 211 = .ok (.getfield 104, 3) := by decide +kernel
theorem dX12_checkPlace_214 : decode cX12_checkPlace 214 = .ok (.iload 10, 2) := by decide +kernel
theorem dX12_checkPlace_216 : decode cX12_checkPlace 216 = .ok (.iaload, 1) := by decide +kernel
theorem dX12_checkPlace_217 : decode cX12_checkPlace 217 = .ok (.iconst 2, 1) := by decide +kernel
theorem dX12_checkPlace_218 : decode cX12_checkPlace 218 = .ok (.invokevirtual 323, 3) := by decide +kernel
theorem dX12_checkPlace_221 : decode cX12_checkPlace 221 = .ok (.istore 11, 2) := by decide +kernel
theorem dX12_checkPlace_223 : decode cX12_checkPlace 223 = .ok (.iload 9, 2) := by decide +kernel
theorem dX12_checkPlace_225 : decode cX12_checkPlace 225 = .ok (.iload 11, 2) := by decide +kernel
theorem dX12_checkPlace_227 : decode cX12_checkPlace 227 = .ok (.ifCond .lt 59, 3) := by decide +kernel
theorem dX12_checkPlace_230 : decode cX12_checkPlace 230 = .ok (.aload_n 0, 1) := by decide +kernel
theorem dX12_checkPlace_231 : decode cX12_checkPlace 231 = .ok (.getfield 46, 3) := by decide +kernel
theorem dX12_checkPlace_234 : decode cX12_checkPlace 234 = .ok (.iload 11, 2) := by decide +kernel
theorem dX12_checkPlace_236 : decode cX12_checkPlace 236 = .ok (.baload, 1) := by decide +kernel
theorem dX12_checkPlace_237 : decode cX12_checkPlace 237 = .ok (.ifCond .eq 49, 3) := by decide +kernel
theorem dX12_checkPlace_240 : decode cX12_checkPlace 240 = .ok (.aload_n 0, 1) := by decide +kernel
theorem dX12_checkPlace_241 : decode cX12_checkPlace 241 = .ok (.getfield 43, 3) := by decide +kernel
theorem dX12_checkPlace_244 : decode cX12_checkPlace 244 = .ok (.iload 11, 2) := by decide +kernel
theorem dX12_checkPlace_246 : decode cX12_checkPlace 246 = .ok (.iaload, 1) := by decide +kernel
theorem dX12_checkPlace_247 : decode cX12_checkPlace 247 = .ok (.iload 5, 2) := by decide +kernel
theorem dX12_checkPlace_249 : decode cX12_checkPlace 249 = .ok (.if_icmp .ne 37, 3) := by decide +kernel
theorem dX12_checkPlace_252 : decode cX12_checkPlace 252 = .ok (.aload_n 0, 1) := by decide +kernel
theorem dX12_checkPlace_253 : decode cX12_checkPlace 253 = .ok (.getfield 107, 3) := by decide +kernel
theorem dX12_checkPlace_256 : decode cX12_checkPlace 256 = .ok (.iload 10, 2) := by decide +kernel
theorem dX12_checkPlace_258 : decode cX12_checkPlace 258 = .ok (.iaload, 1) := by decide +kernel
theorem dX12_checkPlace_259 : decode cX12_checkPlace 259 = .ok (.iconst 2, 1) := by decide +kernel
theorem dX12_checkPlace_260 : decode cX12_checkPlace 260 = .ok (.if_icmp .ne 26, 3) := by decide +kernel
theorem dX12_checkPlace_263 : decode cX12_checkPlace 263 = .ok (.aload_n 0, 1) := by decide +kernel
theorem dX12_checkPlace_264 : decode cX12_checkPlace 264 = .ok (.getfield 110, 3) := by decide +kernel
theorem dX12_checkPlace_267 : decode cX12_checkPlace 267 = .ok (.iload 10, 2) := by decide +kernel
theorem dX12_checkPlace_269 : decode cX12_checkPlace 269 = .ok (.laload, 1) := by decide +kernel
theorem dX12_checkPlace_270 : decode cX12_checkPlace 270 = .ok (.ldc2_w 253, 3) := by decide +kernel
theorem dX12_checkPlace_273 : decode cX12_checkPlace 273 = .ok (.ldc2_w 417, 3) := by decide +kernel
theorem dX12_checkPlace_276 : decode cX12_checkPlace 276 = .ok (.invokestatic 142, 3) := by decide +kernel
theorem dX12_checkPlace_279 : decode cX12_checkPlace 279 = .ok (.ifCond .eq 7, 3) := by decide +kernel
theorem dX12_checkPlace_282 : decode cX12_checkPlace 282 = .ok (.iconst 1, 1) := by decide +kernel
theorem dX12_checkPlace_283 : decode cX12_checkPlace 283 = .ok (.goto 4, 3) := by decide +kernel
theorem dX12_checkPlace_286 : decode cX12_checkPlace 286 = .ok (.iconst 0, 1) := by decide +kernel
theorem dX12_checkPlace_287 : decode cX12_checkPlace 287 = .ok (.iadd, 1) := by decide +kernel
theorem dX12_checkPlace_288 : decode cX12_checkPlace 288 = .ok (.istore 9, 2) := by decide +kernel
theorem dX12_checkPlace_290 : decode cX12_checkPlace 290 = .ok (.iinc 10 1, 3) := by decide +kernel
theorem dX12_checkPlace_293 : decode cX12_checkPlace 293 = .ok (.goto (-99), 3) := by decide +kernel
theorem dX12_checkPlace_296 : decode cX12_checkPlace 296 = .ok (.aload_n 0, 1) := by decide +kernel
theorem dX12_checkPlace_297 : decode cX12_checkPlace 297 = .ok (.getfield 46, 3) := by decide +kernel
theorem dX12_checkPlace_300 : decode cX12_checkPlace 300 = .ok (.iload_n 2, 1) := by decide +kernel
theorem dX12_checkPlace_301 : decode cX12_checkPlace 301 = .ok (.baload, 1) := by decide +kernel
theorem dX12_checkPlace_302 : decode cX12_checkPlace 302 = .ok (.ifCond .ne 21, 3) := by decide +kernel
theorem dX12_checkPlace_305 : decode cX12_checkPlace 305 = .ok (.iload 6, 2) := by decide +kernel
theorem dX12_checkPlace_307 : decode cX12_checkPlace 307 = .ok (.ifCond .ne 15, 3) := by decide +kernel
theorem dX12_checkPlace_310 : decode cX12_checkPlace 310 = .ok (.iload 7, 2) := by decide +kernel
theorem dX12_checkPlace_312 : decode cX12_checkPlace 312 = .ok (.ifCond .ne 10, 3) := by decide +kernel
theorem dX12_checkPlace_315 : decode cX12_checkPlace 315 = .ok (.aload_n 0, 1) := by decide +kernel
theorem dX12_checkPlace_316 : decode cX12_checkPlace 316 = .ok (.bipush 18, 2) := by decide +kernel
theorem dX12_checkPlace_318 : decode cX12_checkPlace 318 = .ok (.iload_n 1, 1) := by decide +kernel
theorem dX12_checkPlace_319 : decode cX12_checkPlace 319 = .ok (.invokevirtual 419, 3) := by decide +kernel
theorem dX12_checkPlace_322 : decode cX12_checkPlace 322 = .ok (.return_, 1) := by decide +kernel
theorem dX12_checkPlace_323 : decode cX12_checkPlace 323 = .ok (.aload_n 0, 1) := by decide +kernel
theorem dX12_checkPlace_324 : decode cX12_checkPlace 324 = .ok (.getfield 110, 3) := by decide +kernel
theorem dX12_checkPlace_327 : decode cX12_checkPlace 327 = .ok (.iload_n 1, 1) := by decide +kernel
theorem dX12_checkPlace_328 : decode cX12_checkPlace 328 = .ok (.laload, 1) := by decide +kernel
theorem dX12_checkPlace_329 : decode cX12_checkPlace 329 = .ok (.lstore 10, 2) := by decide +kernel
theorem dX12_checkPlace_331 : decode cX12_checkPlace 331 = .ok (.lload 10, 2) := by decide +kernel
theorem dX12_checkPlace_333 : decode cX12_checkPlace 333 = .ok (.ldc2_w 429, 3) := by decide +kernel
theorem dX12_checkPlace_336 : decode cX12_checkPlace 336 = .ok (.lcmp, 1) := by decide +kernel
theorem dX12_checkPlace_337 : decode cX12_checkPlace 337 = .ok (.ifCond .ge 8, 3) := by decide +kernel
theorem dX12_checkPlace_340 : decode cX12_checkPlace 340 = .ok (.iload 6, 2) := by decide +kernel
theorem dX12_checkPlace_342 : decode cX12_checkPlace 342 = .ok (.ifCond .eq 27, 3) := by decide +kernel
theorem dX12_checkPlace_345 : decode cX12_checkPlace 345 = .ok (.lload 10, 2) := by decide +kernel
theorem dX12_checkPlace_347 : decode cX12_checkPlace 347 = .ok (.ldc2_w 253, 3) := by decide +kernel
theorem dX12_checkPlace_350 : decode cX12_checkPlace 350 = .ok (.ldc2_w 417, 3) := by decide +kernel
theorem dX12_checkPlace_353 : decode cX12_checkPlace 353 = .ok (.invokestatic 142, 3) := by decide +kernel
theorem dX12_checkPlace_356 : decode cX12_checkPlace 356 = .ok (.ifCond .eq 23, 3) := by decide +kernel
theorem dX12_checkPlace_359 : decode cX12_checkPlace 359 = .ok (.iload 6, 2) := by decide +kernel
theorem dX12_checkPlace_361 : decode cX12_checkPlace 361 = .ok (.ifCond .ne 8, 3) := by decide +kernel
theorem dX12_checkPlace_364 : decode cX12_checkPlace 364 = .ok (.iload 8, 2) := by decide +kernel
theorem dX12_checkPlace_366 : decode cX12_checkPlace 366 = .ok (.ifCond .eq 13, 3) := by decide +kernel
theorem dX12_checkPlace_369 : decode cX12_checkPlace 369 = .ok (.aload_n 0, 1) := by decide +kernel
theorem dX12_checkPlace_370 : decode cX12_checkPlace 370 = .ok (.bipush 12, 2) := by decide +kernel
theorem dX12_checkPlace_372 : decode cX12_checkPlace 372 = .ok (.iload_n 1, 1) := by decide +kernel
theorem dX12_checkPlace_373 : decode cX12_checkPlace 373 = .ok (.invokevirtual 419, 3) := by decide +kernel
theorem dX12_checkPlace_376 : decode cX12_checkPlace 376 = .ok (.goto 31, 3) := by decide +kernel
theorem dX12_checkPlace_379 : decode cX12_checkPlace 379 = .ok (.lload 10, 2) := by decide +kernel
theorem dX12_checkPlace_381 : decode cX12_checkPlace 381 = .ok (.ldc2_w 253, 3) := by decide +kernel
theorem dX12_checkPlace_384 : decode cX12_checkPlace 384 = .ok (.ldc2_w 417, 3) := by decide +kernel
theorem dX12_checkPlace_387 : decode cX12_checkPlace 387 = .ok (.invokestatic 142, 3) := by decide +kernel
theorem dX12_checkPlace_390 : decode cX12_checkPlace 390 = .ok (.ifCond .eq 17, 3) := by decide +kernel
theorem dX12_checkPlace_393 : decode cX12_checkPlace 393 = .ok (.iload 9, 2) := by decide +kernel
theorem dX12_checkPlace_395 : decode cX12_checkPlace 395 = .ok (.bipush 16, 2) := by decide +kernel
theorem dX12_checkPlace_397 : decode cX12_checkPlace 397 = .ok (.if_icmp .lt 10, 3) := by decide +kernel
theorem dX12_checkPlace_400 : decode cX12_checkPlace 400 = .ok (.aload_n 0, 1) := by decide +kernel
theorem dX12_checkPlace_401 : decode cX12_checkPlace 401 = .ok (.bipush 13, 2) := by decide +kernel
theorem dX12_checkPlace_403 : decode cX12_checkPlace 403 = .ok (.iload_n 1, 1) := by decide +kernel
theorem dX12_checkPlace_404 : decode cX12_checkPlace 404 = .ok (.invokevirtual 419, 3) := by decide +kernel
theorem dX12_checkPlace_407 : decode cX12_checkPlace 407 = .ok (.return_, 1) := by decide +kernel
theorem dX12_carryOut_0 : decode cX12_carryOut 0 = .ok (.iconst 0, 1) := by decide +kernel
theorem dX12_carryOut_1 : decode cX12_carryOut 1 = .ok (.istore_n 1, 1) := by decide +kernel
theorem dX12_carryOut_2 : decode cX12_carryOut 2 = .ok (.iload_n 1, 1) := by decide +kernel
theorem dX12_carryOut_3 : decode cX12_carryOut 3 = .ok (.aload_n 0, 1) := by decide +kernel
theorem dX12_carryOut_4 : decode cX12_carryOut 4 = .ok (.getfield 276, 3) := by decide +kernel
theorem dX12_carryOut_7 : decode cX12_carryOut 7 = .ok (.if_icmp .ge 93, 3) := by decide +kernel
theorem dX12_carryOut_10 : decode cX12_carryOut 10 = .ok (.aload_n 0, 1) := by decide +kernel
theorem dX12_carryOut_11 : decode cX12_carryOut 11 = .ok (.aload_n 0, 1) := by decide +kernel
theorem dX12_carryOut_12 : decode cX12_carryOut 12 = .ok (.getfield 101, 3) := by decide +kernel
theorem dX12_carryOut_15 : decode cX12_carryOut 15 = .ok (.bipush 16, 2) := by decide +kernel
theorem dX12_carryOut_17 : decode cX12_carryOut 17 = .ok (.iload_n 1, 1) := by decide +kernel
theorem dX12_carryOut_18 : decode cX12_carryOut 18 = .ok (.imul, 1) := by decide +kernel
theorem dX12_carryOut_19 : decode cX12_carryOut 19 = .ok (.aload_n 0, 1) := by decide +kernel
theorem dX12_carryOut_20 : decode cX12_carryOut 20 = .ok (.getfield 104, 3) := by decide +kernel
theorem dX12_carryOut_23 : decode cX12_carryOut 23 = .ok (.iload_n 1, 1) := by decide +kernel
theorem dX12_carryOut_24 : decode cX12_carryOut 24 = .ok (.iaload, 1) := by decide +kernel
theorem dX12_carryOut_25 : decode cX12_carryOut 25 = .ok (.iconst 2, 1) := by decide +kernel
theorem dX12_carryOut_26 : decode cX12_carryOut 26 = .ok (.invokevirtual 323, 3) := by decide +kernel
theorem dX12_carryOut_29 : decode cX12_carryOut 29 = .ok (.istore_n 2, 1) := by decide +kernel
theorem dX12_carryOut_30 : decode cX12_carryOut 30 = .ok (.aload_n 0, 1) := by decide +kernel
theorem dX12_carryOut_31 : decode cX12_carryOut 31 = .ok (.getfield 46, 3) := by decide +kernel
theorem dX12_carryOut_34 : decode cX12_carryOut 34 = .ok (.iload_n 2, 1) := by decide +kernel
theorem dX12_carryOut_35 : decode cX12_carryOut 35 = .ok (.baload, 1) := by decide +kernel
theorem dX12_carryOut_36 : decode cX12_carryOut 36 = .ok (.ifCond .eq 58, 3) := by decide +kernel
theorem dX12_carryOut_39 : decode cX12_carryOut 39 = .ok (.aload_n 0, 1) := by decide +kernel
theorem dX12_carryOut_40 : decode cX12_carryOut 40 = .ok (.getfield 110, 3) := by decide +kernel
theorem dX12_carryOut_43 : decode cX12_carryOut 43 = .ok (.iload_n 1, 1) := by decide +kernel
theorem dX12_carryOut_44 : decode cX12_carryOut 44 = .ok (.laload, 1) := by decide +kernel
theorem dX12_carryOut_45 : decode cX12_carryOut 45 = .ok (.ldc2_w 253, 3) := by decide +kernel
theorem dX12_carryOut_48 : decode cX12_carryOut 48 = .ok (.ldc2_w 417, 3) := by decide +kernel
theorem dX12_carryOut_51 : decode cX12_carryOut 51 = .ok (.invokestatic 142, 3) := by decide +kernel
theorem dX12_carryOut_54 : decode cX12_carryOut 54 = .ok (.ifCond .eq 40, 3) := by decide +kernel
theorem dX12_carryOut_57 : decode cX12_carryOut 57 = .ok (.aload_n 0, 1) := by decide +kernel
theorem dX12_carryOut_58 : decode cX12_carryOut 58 = .ok (.aload_n 0, 1) := by decide +kernel
theorem dX12_carryOut_59 : decode cX12_carryOut 59 = .ok (.getfield 43, 3) := by decide +kernel
theorem dX12_carryOut_62 : decode cX12_carryOut 62 = .ok (.iload_n 2, 1) := by decide +kernel
theorem dX12_carryOut_63 : decode cX12_carryOut 63 = .ok (.iaload, 1) := by decide +kernel
theorem dX12_carryOut_64 : decode cX12_carryOut 64 = .ok (.aload_n 0, 1) := by decide +kernel
theorem dX12_carryOut_65 : decode cX12_carryOut 65 = .ok (.getfield 101, 3) := by decide +kernel
theorem dX12_carryOut_68 : decode cX12_carryOut 68 = .ok (.bipush 16, 2) := by decide +kernel
theorem dX12_carryOut_70 : decode cX12_carryOut 70 = .ok (.iload_n 1, 1) := by decide +kernel
theorem dX12_carryOut_71 : decode cX12_carryOut 71 = .ok (.imul, 1) := by decide +kernel
theorem dX12_carryOut_72 : decode cX12_carryOut 72 = .ok (.aload_n 0, 1) := by decide +kernel
theorem dX12_carryOut_73 : decode cX12_carryOut 73 = .ok (.getfield 28, 3) := by decide +kernel
theorem dX12_carryOut_76 : decode cX12_carryOut 76 = .ok (.iload_n 2, 1) := by decide +kernel
theorem dX12_carryOut_77 : decode cX12_carryOut 77 = .ok (.iaload, 1) := by decide +kernel
theorem dX12_carryOut_78 : decode cX12_carryOut 78 = .ok (.iadd, 1) := by decide +kernel
theorem dX12_carryOut_79 : decode cX12_carryOut 79 = .ok (.laload, 1) := by decide +kernel
theorem dX12_carryOut_80 : decode cX12_carryOut 80 = .ok (.l2i, 1) := by decide +kernel
theorem dX12_carryOut_81 : decode cX12_carryOut 81 = .ok (.aload_n 0, 1) := by decide +kernel
theorem dX12_carryOut_82 : decode cX12_carryOut 82 = .ok (.getfield 110, 3) := by decide +kernel
theorem dX12_carryOut_85 : decode cX12_carryOut 85 = .ok (.iload_n 1, 1) := by decide +kernel
theorem dX12_carryOut_86 : decode cX12_carryOut 86 = .ok (.laload, 1) := by decide +kernel
theorem dX12_carryOut_87 : decode cX12_carryOut 87 = .ok (.ldc2_w 429, 3) := by decide +kernel
theorem dX12_carryOut_90 : decode cX12_carryOut 90 = .ok (.lsub, 1) := by decide +kernel
theorem dX12_carryOut_91 : decode cX12_carryOut 91 = .ok (.invokevirtual 203, 3) := by decide +kernel
theorem dX12_carryOut_94 : decode cX12_carryOut 94 = .ok (.iinc 1 1, 3) := by decide +kernel
theorem dX12_carryOut_97 : decode cX12_carryOut 97 = .ok (.goto (-95), 3) := by decide +kernel
theorem dX12_carryOut_100 : decode cX12_carryOut 100 = .ok (.iconst 0, 1) := by decide +kernel
theorem dX12_carryOut_101 : decode cX12_carryOut 101 = .ok (.istore_n 1, 1) := by decide +kernel
theorem dX12_carryOut_102 : decode cX12_carryOut 102 = .ok (.iload_n 1, 1) := by decide +kernel
theorem dX12_carryOut_103 : decode cX12_carryOut 103 = .ok (.aload_n 0, 1) := by decide +kernel
theorem dX12_carryOut_104 : decode cX12_carryOut 104 = .ok (.getfield 276, 3) := by decide +kernel
theorem dX12_carryOut_107 : decode cX12_carryOut 107 = .ok (.if_icmp .ge 330, 3) := by decide +kernel
theorem dX12_carryOut_110 : decode cX12_carryOut 110 = .ok (.aload_n 0, 1) := by decide +kernel
theorem dX12_carryOut_111 : decode cX12_carryOut 111 = .ok (.aload_n 0, 1) := by decide +kernel
theorem dX12_carryOut_112 : decode cX12_carryOut 112 = .ok (.getfield 101, 3) := by decide +kernel
theorem dX12_carryOut_115 : decode cX12_carryOut 115 = .ok (.bipush 16, 2) := by decide +kernel
theorem dX12_carryOut_117 : decode cX12_carryOut 117 = .ok (.iload_n 1, 1) := by decide +kernel
theorem dX12_carryOut_118 : decode cX12_carryOut 118 = .ok (.imul, 1) := by decide +kernel
theorem dX12_carryOut_119 : decode cX12_carryOut 119 = .ok (.aload_n 0, 1) := by decide +kernel
theorem dX12_carryOut_120 : decode cX12_carryOut 120 = .ok (.getfield 104, 3) := by decide +kernel
theorem dX12_carryOut_123 : decode cX12_carryOut 123 = .ok (.iload_n 1, 1) := by decide +kernel
theorem dX12_carryOut_124 : decode cX12_carryOut 124 = .ok (.iaload, 1) := by decide +kernel
theorem dX12_carryOut_125 : decode cX12_carryOut 125 = .ok (.iconst 2, 1) := by decide +kernel
theorem dX12_carryOut_126 : decode cX12_carryOut 126 = .ok (.invokevirtual 323, 3) := by decide +kernel
theorem dX12_carryOut_129 : decode cX12_carryOut 129 = .ok (.istore_n 2, 1) := by decide +kernel
theorem dX12_carryOut_130 : decode cX12_carryOut 130 = .ok (.aload_n 0, 1) := by decide +kernel
theorem dX12_carryOut_131 : decode cX12_carryOut 131 = .ok (.getfield 43, 3) := by decide +kernel
theorem dX12_carryOut_134 : decode cX12_carryOut 134 = .ok (.iload_n 2, 1) := by decide +kernel
theorem dX12_carryOut_135 : decode cX12_carryOut 135 = .ok (.iaload, 1) := by decide +kernel
theorem dX12_carryOut_136 : decode cX12_carryOut 136 = .ok (.ifCond .ge 7, 3) := by decide +kernel
theorem dX12_carryOut_139 : decode cX12_carryOut 139 = .ok (.iconst 0, 1) := by decide +kernel
theorem dX12_carryOut_140 : decode cX12_carryOut 140 = .ok (.goto 29, 3) := by decide +kernel
theorem dX12_carryOut_143 : decode cX12_carryOut 143 = .ok (.aload_n 0, 1) := by decide +kernel
theorem dX12_carryOut_144 : decode cX12_carryOut 144 = .ok (.aload_n 0, 1) := by decide +kernel
theorem dX12_carryOut_145 : decode cX12_carryOut 145 = .ok (.getfield 43, 3) := by decide +kernel
theorem dX12_carryOut_148 : decode cX12_carryOut 148 = .ok (.iload_n 2, 1) := by decide +kernel
theorem dX12_carryOut_149 : decode cX12_carryOut 149 = .ok (.iaload, 1) := by decide +kernel
theorem dX12_carryOut_150 : decode cX12_carryOut 150 = .ok (.aload_n 0, 1) := by decide +kernel
theorem dX12_carryOut_151 : decode cX12_carryOut 151 = .ok (.getfield 101, 3) := by decide +kernel
theorem dX12_carryOut_154 : decode cX12_carryOut 154 = .ok (.bipush 16, 2) := by decide +kernel
theorem dX12_carryOut_156 : decode cX12_carryOut 156 = .ok (.iload_n 1, 1) := by decide +kernel
theorem dX12_carryOut_157 : decode cX12_carryOut 157 = .ok (.imul, 1) := by decide +kernel
theorem dX12_carryOut_158 : decode cX12_carryOut 158 = .ok (.aload_n 0, 1) := by decide +kernel
theorem dX12_carryOut_159 : decode cX12_carryOut 159 = .ok (.getfield 28, 3) := by decide +kernel
theorem dX12_carryOut_162 : decode cX12_carryOut 162 = .ok (.iload_n 2, 1) := by decide +kernel
theorem dX12_carryOut_163 : decode cX12_carryOut 163 = .ok (.iaload, 1) := by decide +kernel
theorem dX12_carryOut_164 : decode cX12_carryOut 164 = .ok (.iadd, 1) := by decide +kernel
theorem dX12_carryOut_165 : decode cX12_carryOut 165 = .ok (.laload, 1) := by decide +kernel
theorem dX12_carryOut_166 : decode cX12_carryOut 166 = .ok (.invokevirtual 196, 3) := by decide +kernel
theorem dX12_carryOut_169 : decode cX12_carryOut 169 = .ok (.istore_n 3, 1) := by decide +kernel
theorem dX12_carryOut_170 : decode cX12_carryOut 170 = .ok (.iload_n 3, 1) := by decide +kernel
theorem dX12_carryOut_171 : decode cX12_carryOut 171 = .ok (.ifCond .ge 6, 3) := by decide +kernel
theorem dX12_carryOut_174 : decode cX12_carryOut 174 = .ok (.goto 257, 3) := by decide +kernel
theorem dX12_carryOut_177 : decode cX12_carryOut 177 = .ok (.bipush 16, 2) := by decide +kernel
theorem dX12_carryOut_179 : decode cX12_carryOut 179 = .ok (.iload_n 2, 1) := by decide +kernel
theorem dX12_carryOut_180 : decode cX12_carryOut 180 = .ok (.imul, 1) := by decide +kernel
theorem dX12_carryOut_181 : decode cX12_carryOut 181 = .ok (.iload_n 3, 1) := by decide +kernel
theorem dX12_carryOut_182 : decode cX12_carryOut 182 = .ok (.iadd, 1) := by decide +kernel
theorem dX12_carryOut_183 : decode cX12_carryOut 183 = .ok (.istore 4, 2) := by decide +kernel
theorem dX12_carryOut_185 : decode cX12_carryOut 185 = .ok (.aload_n 0, 1) := by decide +kernel
theorem dX12_carryOut_186 : decode cX12_carryOut 186 = .ok (.getfield 46, 3) := by decide +kernel
theorem dX12_carryOut_189 : decode cX12_carryOut 189 = .ok (.iload_n 2, 1) := by decide +kernel
theorem dX12_carryOut_190 : decode cX12_carryOut 190 = .ok (.baload, 1) := by decide +kernel
theorem dX12_carryOut_191 : decode cX12_carryOut 191 = .ok (.ifCond .eq 59, 3) := by decide +kernel
theorem dX12_carryOut_194 : decode cX12_carryOut 194 = .ok (.aload_n 0, 1) := by decide +kernel
theorem dX12_carryOut_195 : decode cX12_carryOut 195 = .ok (.getfield 110, 3) := by decide +kernel
theorem dX12_carryOut_198 : decode cX12_carryOut 198 = .ok (.iload_n 1, 1) := by decide +kernel
theorem dX12_carryOut_199 : decode cX12_carryOut 199 = .ok (.laload, 1) := by decide +kernel
theorem dX12_carryOut_200 : decode cX12_carryOut 200 = .ok (.ldc2_w 194, 3) := by decide +kernel
theorem dX12_carryOut_203 : decode cX12_carryOut 203 = .ok (.lcmp, 1) := by decide +kernel
theorem dX12_carryOut_204 : decode cX12_carryOut 204 = .ok (.ifCond .ne 17, 3) := by decide +kernel
theorem dX12_carryOut_207 : decode cX12_carryOut 207 = .ok (.aload_n 0, 1) := by decide +kernel
theorem dX12_carryOut_208 : decode cX12_carryOut 208 = .ok (.aload_n 0, 1) := by decide +kernel
theorem dX12_carryOut_209 : decode cX12_carryOut 209 = .ok (.getfield 43, 3) := by decide +kernel
theorem dX12_carryOut_212 : decode cX12_carryOut 212 = .ok (.iload_n 2, 1) := by decide +kernel
theorem dX12_carryOut_213 : decode cX12_carryOut 213 = .ok (.iaload, 1) := by decide +kernel
theorem dX12_carryOut_214 : decode cX12_carryOut 214 = .ok (.iload_n 3, 1) := by decide +kernel
theorem dX12_carryOut_215 : decode cX12_carryOut 215 = .ok (.invokevirtual 200, 3) := by decide +kernel
theorem dX12_carryOut_218 : decode cX12_carryOut 218 = .ok (.goto 213, 3) := by decide +kernel
theorem dX12_carryOut_221 : decode cX12_carryOut 221 = .ok (.aload_n 0, 1) := by decide +kernel
theorem dX12_carryOut_222 : decode cX12_carryOut 222 = .ok (.getfield 110, 3) := by decide +kernel
theorem dX12_carryOut_225 : decode cX12_carryOut 225 = .ok (.iload_n 1, 1) := by decide +kernel
theorem dX12_carryOut_226 : decode cX12_carryOut 226 = .ok (.laload, 1) := by decide +kernel
theorem dX12_carryOut_227 : decode cX12_carryOut 227 = .ok (.ldc2_w 429, 3) := by decide +kernel
theorem dX12_carryOut_230 : decode cX12_carryOut 230 = .ok (.lcmp, 1) := by decide +kernel
theorem dX12_carryOut_231 : decode cX12_carryOut 231 = .ok (.ifCond .ge 200, 3) := by decide +kernel
theorem dX12_carryOut_234 : decode cX12_carryOut 234 = .ok (.aload_n 0, 1) := by decide +kernel
theorem dX12_carryOut_235 : decode cX12_carryOut 235 = .ok (.getfield 50, 3) := by decide +kernel
theorem dX12_carryOut_238 : decode cX12_carryOut 238 = .ok (.iload 4, 2) := by decide +kernel
theorem dX12_carryOut_240 : decode cX12_carryOut 240 = .ok (.aload_n 0, 1) := by decide +kernel
theorem dX12_carryOut_241 : decode cX12_carryOut 241 = .ok (.getfield 110, 3) := by decide +kernel
theorem dX12_carryOut_244 : decode cX12_carryOut 244 = .ok (.iload_n 1, 1) := by decide +kernel
theorem dX12_carryOut_245 : decode cX12_carryOut 245 = .ok (.laload, 1) := by decide +kernel
theorem dX12_carryOut_246 : decode cX12_carryOut 246 = .ok (.lastore, 1) := by decide +kernel
theorem dX12_carryOut_247 : decode cX12_carryOut 247 = .ok (.goto 184, 3) := by decide +kernel
theorem dX12_carryOut_250 : decode cX12_carryOut 250 = .ok (.aload_n 0, 1) := by decide +kernel
theorem dX12_carryOut_251 : decode cX12_carryOut 251 = .ok (.getfield 50, 3) := by decide +kernel
theorem dX12_carryOut_254 : decode cX12_carryOut 254 = .ok (.iload 4, 2) := by decide +kernel
theorem dX12_carryOut_256 : decode cX12_carryOut 256 = .ok (.aload_n 0, 1) := by decide +kernel
theorem dX12_carryOut_257 : decode cX12_carryOut 257 = .ok (.getfield 31, 3) := by decide +kernel
theorem dX12_carryOut_260 : decode cX12_carryOut 260 = .ok (.iload_n 2, 1) := by decide +kernel
theorem dX12_carryOut_261 : decode cX12_carryOut 261 = .ok (.iaload, 1) := by decide +kernel
theorem dX12_carryOut_262 : decode cX12_carryOut 262 = .ok (.iconst 4, 1) := by decide +kernel
theorem dX12_carryOut_263 : decode cX12_carryOut 263 = .ok (.if_icmp .eq 14, 3) := by decide +kernel
theorem dX12_carryOut_266 : decode cX12_carryOut 266 = .ok (.aload_n 0, 1) := by decide +kernel
theorem dX12_carryOut_267 : decode cX12_carryOut 267 = .ok (.getfield 31, 3) := by decide +kernel
theorem dX12_carryOut_270 : decode cX12_carryOut 270 = .ok (.iload_n 2, 1) := by decide +kernel
theorem dX12_carryOut_271 : decode cX12_carryOut 271 = .ok (.iaload, 1) := by decide +kernel
theorem dX12_carryOut_272 : decode cX12_carryOut 272 = .ok (.bipush 6, 2) := by decide +kernel
theorem dX12_carryOut_274 : decode cX12_carryOut 274 = .ok (.if_icmp .ne 7, 3) := by decide +kernel
theorem dX12_carryOut_277 : decode cX12_carryOut 277 = .ok (.lconst 0, 1) := by decide +kernel
theorem dX12_carryOut_278 : decode cX12_carryOut 278 = .ok (.goto 9, 3) := by decide +kernel
theorem dX12_carryOut_281 : decode cX12_carryOut 281 = .ok (.aload_n 0, 1) := by decide +kernel
theorem dX12_carryOut_282 : decode cX12_carryOut 282 = .ok (.getfield 110, 3) := by decide +kernel
theorem dX12_carryOut_285 : decode cX12_carryOut 285 = .ok (.iload_n 1, 1) := by decide +kernel
theorem dX12_carryOut_286 : decode cX12_carryOut 286 = .ok (.laload, 1) := by decide +kernel
theorem dX12_carryOut_287 : decode cX12_carryOut 287 = .ok (.lastore, 1) := by decide +kernel
theorem dX12_carryOut_288 : decode cX12_carryOut 288 = .ok (.aload_n 0, 1) := by decide +kernel
theorem dX12_carryOut_289 : decode cX12_carryOut 289 = .ok (.getfield 56, 3) := by decide +kernel
theorem dX12_carryOut_292 : decode cX12_carryOut 292 = .ok (.iload 4, 2) := by decide +kernel
theorem dX12_carryOut_294 : decode cX12_carryOut 294 = .ok (.aload_n 0, 1) := by decide +kernel
theorem dX12_carryOut_295 : decode cX12_carryOut 295 = .ok (.getfield 31, 3) := by decide +kernel
theorem dX12_carryOut_298 : decode cX12_carryOut 298 = .ok (.iload_n 2, 1) := by decide +kernel
theorem dX12_carryOut_299 : decode cX12_carryOut 299 = .ok (.iaload, 1) := by decide +kernel
theorem dX12_carryOut_300 : decode cX12_carryOut 300 = .ok (.iconst 4, 1) := by decide +kernel
theorem dX12_carryOut_301 : decode cX12_carryOut 301 = .ok (.if_icmp .ne 12, 3) := by decide +kernel
theorem dX12_carryOut_304 : decode cX12_carryOut 304 = .ok (.aload_n 0, 1) := by decide +kernel
theorem dX12_carryOut_305 : decode cX12_carryOut 305 = .ok (.getfield 116, 3) := by decide +kernel
theorem dX12_carryOut_308 : decode cX12_carryOut 308 = .ok (.iload_n 1, 1) := by decide +kernel
theorem dX12_carryOut_309 : decode cX12_carryOut 309 = .ok (.iaload, 1) := by decide +kernel
theorem dX12_carryOut_310 : decode cX12_carryOut 310 = .ok (.goto 4, 3) := by decide +kernel
theorem dX12_carryOut_313 : decode cX12_carryOut 313 = .ok (.iconst 0, 1) := by decide +kernel
theorem dX12_carryOut_314 : decode cX12_carryOut 314 = .ok (.iastore, 1) := by decide +kernel
theorem dX12_carryOut_315 : decode cX12_carryOut 315 = .ok (.iconst 0, 1) := by decide +kernel
theorem dX12_carryOut_316 : decode cX12_carryOut 316 = .ok (.istore 5, 2) := by decide +kernel
theorem dX12_carryOut_318 : decode cX12_carryOut 318 = .ok (.iload 5, 2) := by decide +kernel
theorem dX12_carryOut_320 : decode cX12_carryOut 320 = .ok (.aload_n 0, 1) := by decide +kernel
theorem dX12_carryOut_321 : decode cX12_carryOut 321 = .ok (.getfield 56, 3) := by decide +kernel
theorem dX12_carryOut_324 : decode cX12_carryOut 324 = .ok (.iload 4, 2) := by decide +kernel
theorem dX12_carryOut_326 : decode cX12_carryOut 326 = .ok (.iaload, 1) := by decide +kernel
theorem dX12_carryOut_327 : decode cX12_carryOut 327 = .ok (.if_icmp .ge 34, 3) := by decide +kernel
theorem dX12_carryOut_330 : decode cX12_carryOut 330 = .ok (.aload_n 0, 1) := by decide +kernel
theorem dX12_carryOut_331 : decode cX12_carryOut 331 = .ok (.getfield 53, 3) := by decide +kernel
theorem dX12_carryOut_334 : decode cX12_carryOut 334 = .ok (.bipush 40, 2) := by decide +kernel
theorem dX12_carryOut_336 : decode cX12_carryOut 336 = .ok (.iload 4, 2) := by decide +kernel
theorem dX12_carryOut_338 : decode cX12_carryOut 338 = .ok (.imul, 1) := by decide +kernel
theorem dX12_carryOut_339 : decode cX12_carryOut 339 = .ok (.iload 5, 2) := by decide +kernel
theorem dX12_carryOut_341 : decode cX12_carryOut 341 = .ok (.iadd, 1) := by decide +kernel
theorem dX12_carryOut_342 : decode cX12_carryOut 342 = .ok (.aload_n 0, 1) := by decide +kernel
theorem dX12_carryOut_343 : decode cX12_carryOut 343 = .ok (.getfield 113, 3) := by decide +kernel
theorem dX12_carryOut_346 : decode cX12_carryOut 346 = .ok (.bipush 40, 2) := by decide +kernel
theorem dX12_carryOut_348 : decode cX12_carryOut 348 = .ok (.iload_n 1, 1) := by decide +kernel
theorem dX12_carryOut_349 : decode cX12_carryOut 349 = .ok (.imul, 1) := by decide +kernel
theorem dX12_carryOut_350 : decode cX12_carryOut 350 = .ok (.iload 5, 2) := by decide +kernel
theorem dX12_carryOut_352 : decode cX12_carryOut 352 = .ok (.iadd, 1) := by decide +kernel
theorem dX12_carryOut_353 : decode cX12_carryOut 353 = .ok (.baload, 1) := by decide +kernel
theorem dX12_carryOut_354 : decode cX12_carryOut 354 = .ok (.bastore, 1) := by decide +kernel
theorem dX12_carryOut_355 : decode cX12_carryOut 355 = .ok (.iinc 5 1, 3) := by decide +kernel
theorem dX12_carryOut_358 : decode cX12_carryOut 358 = .ok (.goto (-40), 3) := by decide +kernel
theorem dX12_carryOut_361 : decode cX12_carryOut 361 = .ok (.aload_n 0, 1) := by decide +kernel
theorem dX12_carryOut_362 : decode cX12_carryOut 362 = .ok (.getfield 31, 3) := by decide +kernel
theorem dX12_carryOut_365 : decode cX12_carryOut 365 = .ok (.iload_n 2, 1) := by decide +kernel
theorem dX12_carryOut_366 : decode cX12_carryOut 366 = .ok (.iaload, 1) := by decide +kernel
theorem dX12_carryOut_367 : decode cX12_carryOut 367 = .ok (.bipush 6, 2) := by decide +kernel
theorem dX12_carryOut_369 : decode cX12_carryOut 369 = .ok (.if_icmp .ne 62, 3) := by decide +kernel
theorem dX12_carryOut_372 : decode cX12_carryOut 372 = .ok (.aload_n 0, 1) := by decide +kernel
theorem dX12_carryOut_373 : decode cX12_carryOut 373 = .ok (.getfield 62, 3) := by decide +kernel
theorem dX12_carryOut_376 : decode cX12_carryOut 376 = .ok (.iload 4, 2) := by decide +kernel
theorem dX12_carryOut_378 : decode cX12_carryOut 378 = .ok (.aload_n 0, 1) := by decide +kernel
theorem dX12_carryOut_379 : decode cX12_carryOut 379 = .ok (.getfield 122, 3) := by decide +kernel
theorem dX12_carryOut_382 : decode cX12_carryOut 382 = .ok (.iload_n 1, 1) := by decide +kernel
theorem dX12_carryOut_383 : decode cX12_carryOut 383 = .ok (.iaload, 1) := by decide +kernel
theorem dX12_carryOut_384 : decode cX12_carryOut 384 = .ok (.iastore, 1) := by decide +kernel
theorem dX12_carryOut_385 : decode cX12_carryOut 385 = .ok (.iconst 0, 1) := by decide +kernel
theorem dX12_carryOut_386 : decode cX12_carryOut 386 = .ok (.istore 5, 2) := by decide +kernel
theorem dX12_carryOut_388 : decode cX12_carryOut 388 = .ok (.iload 5, 2) := by decide +kernel
theorem dX12_carryOut_390 : decode cX12_carryOut 390 = .ok (.aload_n 0, 1) := by decide +kernel
theorem dX12_carryOut_391 : decode cX12_carryOut 391 = .ok (.getfield 62, 3) := by decide +kernel
theorem dX12_carryOut_394 : decode cX12_carryOut 394 = .ok (.iload 4, 2) := by decide +kernel
theorem dX12_carryOut_396 : decode cX12_carryOut 396 = .ok (.iaload, 1) := by decide +kernel
theorem dX12_carryOut_397 : decode cX12_carryOut 397 = .ok (.if_icmp .ge 34, 3) := by decide +kernel
theorem dX12_carryOut_400 : decode cX12_carryOut 400 = .ok (.aload_n 0, 1) := by decide +kernel
theorem dX12_carryOut_401 : decode cX12_carryOut 401 = .ok (.getfield 59, 3) := by decide +kernel
theorem dX12_carryOut_404 : decode cX12_carryOut 404 = .ok (.bipush 16, 2) := by decide +kernel
theorem dX12_carryOut_406 : decode cX12_carryOut 406 = .ok (.iload 4, 2) := by decide +kernel
theorem dX12_carryOut_408 : decode cX12_carryOut 408 = .ok (.imul, 1) := by decide +kernel
theorem dX12_carryOut_409 : decode cX12_carryOut 409 = .ok (.iload 5, 2) := by decide +kernel
theorem dX12_carryOut_411 : decode cX12_carryOut 411 = .ok (.iadd, 1) := by decide +kernel
theorem dX12_carryOut_412 : decode cX12_carryOut 412 = .ok (.aload_n 0, 1) := by decide +kernel
theorem dX12_carryOut_413 : decode cX12_carryOut 413 = .ok (.getfield 119, 3) := by decide +kernel
theorem dX12_carryOut_416 : decode cX12_carryOut 416 = .ok (.bipush 16, 2) := by decide +kernel
theorem dX12_carryOut_418 : decode cX12_carryOut 418 = .ok (.iload_n 1, 1) := by decide +kernel
theorem dX12_carryOut_419 : decode cX12_carryOut 419 = .ok (.imul, 1) := by decide +kernel
theorem dX12_carryOut_420 : decode cX12_carryOut 420 = .ok (.iload 5, 2) := by decide +kernel
theorem dX12_carryOut_422 : decode cX12_carryOut 422 = .ok (.iadd, 1) := by decide +kernel
theorem dX12_carryOut_423 : decode cX12_carryOut 423 = .ok (.laload, 1) := by decide +kernel
theorem dX12_carryOut_424 : decode cX12_carryOut 424 = .ok (.lastore, 1) := by decide +kernel
theorem dX12_carryOut_425 : decode cX12_carryOut 425 = .ok (.iinc 5 1, 3) := by decide +kernel
theorem dX12_carryOut_428 : decode cX12_carryOut 428 = .ok (.goto (-40), 3) := by decide +kernel
theorem dX12_carryOut_431 : decode cX12_carryOut 431 = .ok (.iinc 1 1, 3) := by decide +kernel
theorem dX12_carryOut_434 : decode cX12_carryOut 434 = .ok (.goto (-332), 3) := by decide +kernel
theorem dX12_carryOut_437 : decode cX12_carryOut 437 = .ok (.return_, 1) := by decide +kernel
theorem dX12_find_0 : decode cX12_find 0 = .ok (.iconst 0, 1) := by decide +kernel
theorem dX12_find_1 : decode cX12_find 1 = .ok (.istore_n 1, 1) := by decide +kernel
theorem dX12_find_2 : decode cX12_find 2 = .ok (.iload_n 1, 1) := by decide +kernel
theorem dX12_find_3 : decode cX12_find 3 = .ok (.aload_n 0, 1) := by decide +kernel
theorem dX12_find_4 : decode cX12_find 4 = .ok (.getfield 276, 3) := by decide +kernel
theorem dX12_find_7 : decode cX12_find 7 = .ok (.if_icmp .ge 80, 3) := by decide +kernel
theorem dX12_find_10 : decode cX12_find 10 = .ok (.aload_n 0, 1) := by decide +kernel
theorem dX12_find_11 : decode cX12_find 11 = .ok (.getfield 297, 3) := by decide +kernel
theorem dX12_find_14 : decode cX12_find 14 = .ok (.sipush 160, 3) := by decide +kernel
theorem dX12_find_17 : decode cX12_find 17 = .ok (.if_icmp .ne 15, 3) := by decide +kernel
theorem dX12_find_20 : decode cX12_find 20 = .ok (.aload_n 0, 1) := by decide +kernel
theorem dX12_find_21 : decode cX12_find 21 = .ok (.iload_n 1, 1) := by decide +kernel
theorem dX12_find_22 : decode cX12_find 22 = .ok (.bipush 20, 2) := by decide +kernel
theorem dX12_find_24 : decode cX12_find 24 = .ok (.iload_n 1, 1) := by decide +kernel
theorem dX12_find_25 : decode cX12_find 25 = .ok (.iadd, 1) := by decide +kernel
theorem dX12_find_26 : decode cX12_find 26 = .ok (.invokevirtual 431, 3) := by decide +kernel
theorem dX12_find_29 : decode cX12_find 29 = .ok (.goto 12, 3) := by decide +kernel
theorem dX12_find_32 : decode cX12_find 32 = .ok (.aload_n 0, 1) := by decide +kernel
theorem dX12_find_33 : decode cX12_find 33 = .ok (.iload_n 1, 1) := by decide +kernel
theorem dX12_find_34 : decode cX12_find 34 = .ok (.bipush 20, 2) := by decide +kernel
theorem dX12_find_36 : decode cX12_find 36 = .ok (.iload_n 1, 1) := by decide +kernel
theorem dX12_find_37 : decode cX12_find 37 = .ok (.iadd, 1) := by decide +kernel
theorem dX12_find_38 : decode cX12_find 38 = .ok (.invokevirtual 408, 3) := by decide +kernel
theorem dX12_find_41 : decode cX12_find 41 = .ok (.aload_n 0, 1) := by decide +kernel
theorem dX12_find_42 : decode cX12_find 42 = .ok (.getfield 285, 3) := by decide +kernel
theorem dX12_find_45 : decode cX12_find 45 = .ok (.ifCond .ne 36, 3) := by decide +kernel
theorem dX12_find_48 : decode cX12_find 48 = .ok (.aload_n 0, 1) := by decide +kernel
theorem dX12_find_49 : decode cX12_find 49 = .ok (.getfield 107, 3) := by decide +kernel
theorem dX12_find_52 : decode cX12_find 52 = .ok (.bipush 20, 2) := by decide +kernel
theorem dX12_find_54 : decode cX12_find 54 = .ok (.iload_n 1, 1) := by decide +kernel
theorem dX12_find_55 : decode cX12_find 55 = .ok (.iadd, 1) := by decide +kernel
theorem dX12_find_56 : decode cX12_find 56 = .ok (.iaload, 1) := by decide +kernel
theorem dX12_find_57 : decode cX12_find 57 = .ok (.bipush 127, 2) := by decide +kernel
theorem dX12_find_59 : decode cX12_find 59 = .ok (.if_icmp .le 22, 3) := by decide +kernel
theorem dX12_find_62 : decode cX12_find 62 = .ok (.aload_n 0, 1) := by decide +kernel
theorem dX12_find_63 : decode cX12_find 63 = .ok (.getfield 370, 3) := by decide +kernel
theorem dX12_find_66 : decode cX12_find 66 = .ok (.ifCond .ne 15, 3) := by decide +kernel
theorem dX12_find_69 : decode cX12_find 69 = .ok (.aload_n 0, 1) := by decide +kernel
theorem dX12_find_70 : decode cX12_find 70 = .ok (.iconst 2, 1) := by decide +kernel
theorem dX12_find_71 : decode cX12_find 71 = .ok (.putfield 370, 3) := by decide +kernel
theorem dX12_find_74 : decode cX12_find 74 = .ok (.aload_n 0, 1) := by decide +kernel
theorem dX12_find_75 : decode cX12_find 75 = .ok (.iload_n 1, 1) := by decide +kernel
theorem dX12_find_76 : decode cX12_find 76 = .ok (.iconst 1, 1) := by decide +kernel
theorem dX12_find_77 : decode cX12_find 77 = .ok (.iadd, 1) := by decide +kernel
theorem dX12_find_78 : decode cX12_find 78 = .ok (.putfield 373, 3) := by decide +kernel
theorem dX12_find_81 : decode cX12_find 81 = .ok (.iinc 1 1, 3) := by decide +kernel
theorem dX12_find_84 : decode cX12_find 84 = .ok (.goto (-82), 3) := by decide +kernel
theorem dX12_find_87 : decode cX12_find 87 = .ok (.aload_n 0, 1) := by decide +kernel
theorem dX12_find_88 : decode cX12_find 88 = .ok (.aload_n 0, 1) := by decide +kernel
theorem dX12_find_89 : decode cX12_find 89 = .ok (.getfield 276, 3) := by decide +kernel
theorem dX12_find_92 : decode cX12_find 92 = .ok (.putfield 405, 3) := by decide +kernel
theorem dX12_find_95 : decode cX12_find 95 = .ok (.return_, 1) := by decide +kernel
theorem dX12_question_0 : decode cX12_question 0 = .ok (.aload_n 0, 1) := by decide +kernel
theorem dX12_question_1 : decode cX12_question 1 = .ok (.iconst 0, 1) := by decide +kernel
theorem dX12_question_2 : decode cX12_question 2 = .ok (.putfield 137, 3) := by decide +kernel
theorem dX12_question_5 : decode cX12_question 5 = .ok (.aload_n 0, 1) := by decide +kernel
theorem dX12_question_6 : decode cX12_question 6 = .ok (.getfield 146, 3) := by decide +kernel
theorem dX12_question_9 : decode cX12_question 9 = .ok (.istore_n 1, 1) := by decide +kernel
theorem dX12_question_10 : decode cX12_question 10 = .ok (.aload_n 0, 1) := by decide +kernel
theorem dX12_question_11 : decode cX12_question 11 = .ok (.iconst 0, 1) := by decide +kernel
theorem dX12_question_12 : decode cX12_question 12 = .ok (.putfield 146, 3) := by decide +kernel
theorem dX12_question_15 : decode cX12_question 15 = .ok (.aload_n 0, 1) := by decide +kernel
theorem dX12_question_16 : decode cX12_question 16 = .ok (.iconst 0, 1) := by decide +kernel
theorem dX12_question_17 : decode cX12_question 17 = .ok (.putfield 402, 3) := by decide +kernel
theorem dX12_question_20 : decode cX12_question 20 = .ok (.aload_n 0, 1) := by decide +kernel
theorem dX12_question_21 : decode cX12_question 21 = .ok (.iload_n 1, 1) := by decide +kernel
theorem dX12_question_22 : decode cX12_question 22 = .ok (.invokevirtual 434, 3) := by decide +kernel
theorem dX12_question_25 : decode cX12_question 25 = .ok (.aload_n 0, 1) := by decide +kernel
theorem dX12_question_26 : decode cX12_question 26 = .ok (.getfield 241, 3) := by decide +kernel
theorem dX12_question_29 : decode cX12_question 29 = .ok (.ifCond .eq 18, 3) := by decide +kernel
theorem dX12_question_32 : decode cX12_question 32 = .ok (.aload_n 0, 1) := by decide +kernel
theorem dX12_question_33 : decode cX12_question 33 = .ok (.getfield 21, 3) := by decide +kernel
theorem dX12_question_36 : decode cX12_question 36 = .ok (.aload_n 0, 1) := by decide +kernel
theorem dX12_question_37 : decode cX12_question 37 = .ok (.getfield 241, 3) := by decide +kernel
theorem dX12_question_40 : decode cX12_question 40 = .ok (.dup2, 1) := by decide +kernel
theorem dX12_question_41 : decode cX12_question 41 = .ok (.iaload, 1) := by decide +kernel
theorem dX12_question_42 : decode cX12_question 42 = .ok (.iconst 1, 1) := by decide +kernel
theorem dX12_question_43 : decode cX12_question 43 = .ok (.iadd, 1) := by decide +kernel
theorem dX12_question_44 : decode cX12_question 44 = .ok (.iastore, 1) := by decide +kernel
theorem dX12_question_45 : decode cX12_question 45 = .ok (.iconst 0, 1) := by decide +kernel
theorem dX12_question_46 : decode cX12_question 46 = .ok (.ireturn, 1) := by decide +kernel
theorem dX12_question_47 : decode cX12_question 47 = .ok (.aload_n 0, 1) := by decide +kernel
theorem dX12_question_48 : decode cX12_question 48 = .ok (.iconst 0, 1) := by decide +kernel
theorem dX12_question_49 : decode cX12_question 49 = .ok (.putfield 370, 3) := by decide +kernel
theorem dX12_question_52 : decode cX12_question 52 = .ok (.aload_n 0, 1) := by decide +kernel
theorem dX12_question_53 : decode cX12_question 53 = .ok (.iconst 0, 1) := by decide +kernel
theorem dX12_question_54 : decode cX12_question 54 = .ok (.putfield 373, 3) := by decide +kernel
theorem dX12_question_57 : decode cX12_question 57 = .ok (.aload_n 0, 1) := by decide +kernel
theorem dX12_question_58 : decode cX12_question 58 = .ok (.iconst 0, 1) := by decide +kernel
theorem dX12_question_59 : decode cX12_question 59 = .ok (.putfield 405, 3) := by decide +kernel
theorem dX12_question_62 : decode cX12_question 62 = .ok (.bipush 20, 2) := by decide +kernel
theorem dX12_question_64 : decode cX12_question 64 = .ok (.istore_n 2, 1) := by decide +kernel
theorem dX12_question_65 : decode cX12_question 65 = .ok (.aload_n 0, 1) := by decide +kernel
theorem dX12_question_66 : decode cX12_question 66 = .ok (.getfield 297, 3) := by decide +kernel
theorem dX12_question_69 : decode cX12_question 69 = .ok (.sipush 165, 3) := by decide +kernel
theorem dX12_question_72 : decode cX12_question 72 = .ok (.if_icmp .ne 10, 3) := by decide +kernel
theorem dX12_question_75 : decode cX12_question 75 = .ok (.aload_n 0, 1) := by decide +kernel
theorem dX12_question_76 : decode cX12_question 76 = .ok (.invokevirtual 437, 3) := by decide +kernel
theorem dX12_question_79 : decode cX12_question 79 = .ok (.goto 110, 3) := by decide +kernel
theorem dX12_question_82 : decode cX12_question 82 = .ok (.aload_n 0, 1) := by decide +kernel
theorem dX12_question_83 : decode cX12_question 83 = .ok (.getfield 297, 3) := by decide +kernel
theorem dX12_question_86 : decode cX12_question 86 = .ok (.sipush 163, 3) := by decide +kernel
theorem dX12_question_89 : decode cX12_question 89 = .ok (.if_icmp .ne 96, 3) := by decide +kernel
theorem dX12_question_92 : decode cX12_question 92 = .ok (.iconst 0, 1) := by decide +kernel
theorem dX12_question_93 : decode cX12_question 93 = .ok (.istore_n 2, 1) := by decide +kernel
theorem dX12_question_94 : decode cX12_question 94 = .ok (.aload_n 0, 1) := by decide +kernel
theorem dX12_question_95 : decode cX12_question 95 = .ok (.aload_n 0, 1) := by decide +kernel
theorem dX12_question_96 : decode cX12_question 96 = .ok (.getfield 276, 3) := by decide +kernel
theorem dX12_question_99 : decode cX12_question 99 = .ok (.putfield 405, 3) := by decide +kernel
theorem dX12_question_102 : decode cX12_question 102 = .ok (.aload_n 0, 1) := by decide +kernel
theorem dX12_question_103 : decode cX12_question 103 = .ok (.getfield 86, 3) := by decide +kernel
theorem dX12_question_106 : decode cX12_question 106 = .ok (.aload_n 0, 1) := by decide +kernel
theorem dX12_question_107 : decode cX12_question 107 = .ok (.getfield 294, 3) := by decide +kernel
theorem dX12_question_110 : decode cX12_question 110 = .ok (.baload, 1) := by decide +kernel
theorem dX12_question_111 : decode cX12_question 111 = .ok (.ifCond .ne 43, 3) := by decide +kernel
theorem dX12_question_114 : decode cX12_question 114 = .ok (.aload_n 0, 1) := by decide +kernel
theorem dX12_question_115 : decode cX12_question 115 = .ok (.getfield 276, 3) := by decide +kernel
theorem dX12_question_118 : decode cX12_question 118 = .ok (.ifCond .le 36, 3) := by decide +kernel
theorem dX12_question_121 : decode cX12_question 121 = .ok (.aload_n 0, 1) := by decide +kernel
theorem dX12_question_122 : decode cX12_question 122 = .ok (.aload_n 0, 1) := by decide +kernel
theorem dX12_question_123 : decode cX12_question 123 = .ok (.getfield 285, 3) := by decide +kernel
theorem dX12_question_126 : decode cX12_question 126 = .ok (.iconst 1, 1) := by decide +kernel
theorem dX12_question_127 : decode cX12_question 127 = .ok (.if_icmp .ne 8, 3) := by decide +kernel
theorem dX12_question_130 : decode cX12_question 130 = .ok (.bipush 6, 2) := by decide +kernel
theorem dX12_question_132 : decode cX12_question 132 = .ok (.goto 4, 3) := by decide +kernel
theorem dX12_question_135 : decode cX12_question 135 = .ok (.iconst 2, 1) := by decide +kernel
theorem dX12_question_136 : decode cX12_question 136 = .ok (.putfield 370, 3) := by decide +kernel
theorem dX12_question_139 : decode cX12_question 139 = .ok (.aload_n 0, 1) := by decide +kernel
theorem dX12_question_140 : decode cX12_question 140 = .ok (.iconst 1, 1) := by decide +kernel
theorem dX12_question_141 : decode cX12_question 141 = .ok (.putfield 373, 3) := by decide +kernel
theorem dX12_question_144 : decode cX12_question 144 = .ok (.aload_n 0, 1) := by decide +kernel
theorem dX12_question_145 : decode cX12_question 145 = .ok (.getfield 21, 3) := by decide +kernel
theorem dX12_question_148 : decode cX12_question 148 = .ok (.iconst 4, 1) := by decide +kernel
theorem dX12_question_149 : decode cX12_question 149 = .ok (.dup2, 1) := by decide +kernel
theorem dX12_question_150 : decode cX12_question 150 = .ok (.iaload, 1) := by decide +kernel
theorem dX12_question_151 : decode cX12_question 151 = .ok (.iconst 1, 1) := by decide +kernel
theorem dX12_question_152 : decode cX12_question 152 = .ok (.iadd, 1) := by decide +kernel
theorem dX12_question_153 : decode cX12_question 153 = .ok (.iastore, 1) := by decide +kernel
theorem dX12_question_154 : decode cX12_question 154 = .ok (.iconst 0, 1) := by decide +kernel
theorem dX12_question_155 : decode cX12_question 155 = .ok (.istore_n 3, 1) := by decide +kernel
theorem dX12_question_156 : decode cX12_question 156 = .ok (.iload_n 3, 1) := by decide +kernel
theorem dX12_question_157 : decode cX12_question 157 = .ok (.aload_n 0, 1) := by decide +kernel
theorem dX12_question_158 : decode cX12_question 158 = .ok (.getfield 276, 3) := by decide +kernel
theorem dX12_question_161 : decode cX12_question 161 = .ok (.if_icmp .ge 21, 3) := by decide +kernel
theorem dX12_question_164 : decode cX12_question 164 = .ok (.aload_n 0, 1) := by decide +kernel
theorem dX12_question_165 : decode cX12_question 165 = .ok (.getfield 370, 3) := by decide +kernel
theorem dX12_question_168 : decode cX12_question 168 = .ok (.ifCond .ne 14, 3) := by decide +kernel
theorem dX12_question_171 : decode cX12_question 171 = .ok (.aload_n 0, 1) := by decide +kernel
theorem dX12_question_172 : decode cX12_question 172 = .ok (.iload_n 3, 1) := by decide +kernel
theorem dX12_question_173 : decode cX12_question 173 = .ok (.invokevirtual 440, 3) := by decide +kernel
theorem dX12_question_176 : decode cX12_question 176 = .ok (.iinc 3 1, 3) := by decide +kernel
theorem dX12_question_179 : decode cX12_question 179 = .ok (.goto (-23), 3) := by decide +kernel
theorem dX12_question_182 : decode cX12_question 182 = .ok (.goto 7, 3) := by decide +kernel
theorem dX12_question_185 : decode cX12_question 185 = .ok (.aload_n 0, 1) := by decide +kernel
theorem dX12_question_186 : decode cX12_question 186 = .ok (.invokevirtual 443, 3) := by decide +kernel
theorem dX12_question_189 : decode cX12_question 189 = .ok (.aload_n 0, 1) := by decide +kernel
theorem dX12_question_190 : decode cX12_question 190 = .ok (.getfield 370, 3) := by decide +kernel
theorem dX12_question_193 : decode cX12_question 193 = .ok (.ifCond .le 16, 3) := by decide +kernel
theorem dX12_question_196 : decode cX12_question 196 = .ok (.iconst 0, 1) := by decide +kernel
theorem dX12_question_197 : decode cX12_question 197 = .ok (.istore_n 2, 1) := by decide +kernel
theorem dX12_question_198 : decode cX12_question 198 = .ok (.aload_n 0, 1) := by decide +kernel
theorem dX12_question_199 : decode cX12_question 199 = .ok (.aload_n 0, 1) := by decide +kernel
theorem dX12_question_200 : decode cX12_question 200 = .ok (.getfield 276, 3) := by decide +kernel
theorem dX12_question_203 : decode cX12_question 203 = .ok (.putfield 405, 3) := by decide +kernel
theorem dX12_question_206 : decode cX12_question 206 = .ok (.goto 51, 3) := by decide +kernel
theorem dX12_question_209 : decode cX12_question 209 = .ok (.aload_n 0, 1) := by decide +kernel
theorem dX12_question_210 : decode cX12_question 210 = .ok (.iload_n 2, 1) := by decide +kernel
theorem dX12_question_211 : decode cX12_question 211 = .ok (.aload_n 0, 1) := by decide +kernel
theorem dX12_question_212 : decode cX12_question 212 = .ok (.getfield 405, 3) := by decide +kernel
theorem dX12_question_215 : decode cX12_question 215 = .ok (.invokevirtual 411, 3) := by decide +kernel
theorem dX12_question_218 : decode cX12_question 218 = .ok (.aload_n 0, 1) := by decide +kernel
theorem dX12_question_219 : decode cX12_question 219 = .ok (.getfield 17, 3) := by decide +kernel
theorem dX12_question_222 : decode cX12_question 222 = .ok (.if_icmp .le 35, 3) := by decide +kernel
theorem dX12_question_225 : decode cX12_question 225 = .ok (.aload_n 0, 1) := by decide +kernel
theorem dX12_question_226 : decode cX12_question 226 = .ok (.iconst 1, 1) := by decide +kernel
theorem dX12_question_227 : decode cX12_question 227 = .ok (.putfield 370, 3) := by decide +kernel
theorem dX12_question_230 : decode cX12_question 230 = .ok (.aload_n 0, 1) := by decide +kernel
theorem dX12_question_231 : decode cX12_question 231 = .ok (.iconst 0, 1) := by decide +kernel
theorem dX12_question_232 : decode cX12_question 232 = .ok (.putfield 373, 3) := by decide +kernel
theorem dX12_question_235 : decode cX12_question 235 = .ok (.iconst 0, 1) := by decide +kernel
theorem dX12_question_236 : decode cX12_question 236 = .ok (.istore_n 2, 1) := by decide +kernel
theorem dX12_question_237 : decode cX12_question 237 = .ok (.aload_n 0, 1) := by decide +kernel
theorem dX12_question_238 : decode cX12_question 238 = .ok (.aload_n 0, 1) := by decide +kernel
theorem dX12_question_239 : decode cX12_question 239 = .ok (.getfield 285, 3) := by decide +kernel
theorem dX12_question_242 : decode cX12_question 242 = .ok (.iconst 1, 1) := by decide +kernel
theorem dX12_question_243 : decode cX12_question 243 = .ok (.if_icmp .ne 7, 3) := by decide +kernel
theorem dX12_question_246 : decode cX12_question 246 = .ok (.iconst 0, 1) := by decide +kernel
theorem dX12_question_247 : decode cX12_question 247 = .ok (.goto 7, 3) := by decide +kernel
theorem dX12_question_250 : decode cX12_question 250 = .ok (.aload_n 0, 1) := by decide +kernel
theorem dX12_question_251 : decode cX12_question 251 = .ok (.getfield 276, 3) := by decide +kernel
theorem dX12_question_254 : decode cX12_question 254 = .ok (.putfield 405, 3) := by decide +kernel
theorem dX12_question_257 : decode cX12_question 257 = .ok (.aload_n 0, 1) := by decide +kernel
theorem dX12_question_258 : decode cX12_question 258 = .ok (.iload_n 2, 1) := by decide +kernel
theorem dX12_question_259 : decode cX12_question 259 = .ok (.aload_n 0, 1) := by decide +kernel
theorem dX12_question_260 : decode cX12_question 260 = .ok (.getfield 405, 3) := by decide +kernel
theorem dX12_question_263 : decode cX12_question 263 = .ok (.invokevirtual 411, 3) := by decide +kernel
theorem dX12_question_266 : decode cX12_question 266 = .ok (.aload_n 0, 1) := by decide +kernel
theorem dX12_question_267 : decode cX12_question 267 = .ok (.getfield 17, 3) := by decide +kernel
theorem dX12_question_270 : decode cX12_question 270 = .ok (.if_icmp .le 15, 3) := by decide +kernel
theorem dX12_question_273 : decode cX12_question 273 = .ok (.aload_n 0, 1) := by decide +kernel
theorem dX12_question_274 : decode cX12_question 274 = .ok (.getfield 21, 3) := by decide +kernel
theorem dX12_question_277 : decode cX12_question 277 = .ok (.iconst 5, 1) := by decide +kernel
theorem dX12_question_278 : decode cX12_question 278 = .ok (.dup2, 1) := by decide +kernel
theorem dX12_question_279 : decode cX12_question 279 = .ok (.iaload, 1) := by decide +kernel
theorem dX12_question_280 : decode cX12_question 280 = .ok (.iconst 1, 1) := by decide +kernel
theorem dX12_question_281 : decode cX12_question 281 = .ok (.iadd, 1) := by decide +kernel
theorem dX12_question_282 : decode cX12_question 282 = .ok (.iastore, 1) := by decide +kernel
theorem dX12_question_283 : decode cX12_question 283 = .ok (.iconst 0, 1) := by decide +kernel
theorem dX12_question_284 : decode cX12_question 284 = .ok (.ireturn, 1) := by decide +kernel
theorem dX12_question_285 : decode cX12_question 285 = .ok (.aload_n 0, 1) := by decide +kernel
theorem dX12_question_286 : decode cX12_question 286 = .ok (.iload_n 2, 1) := by decide +kernel
theorem dX12_question_287 : decode cX12_question 287 = .ok (.aload_n 0, 1) := by decide +kernel
theorem dX12_question_288 : decode cX12_question 288 = .ok (.getfield 405, 3) := by decide +kernel
theorem dX12_question_291 : decode cX12_question 291 = .ok (.invokevirtual 446, 3) := by decide +kernel
theorem dX12_question_294 : decode cX12_question 294 = .ok (.aload_n 0, 1) := by decide +kernel
theorem dX12_question_295 : decode cX12_question 295 = .ok (.getfield 297, 3) := by decide +kernel
theorem dX12_question_298 : decode cX12_question 298 = .ok (.sipush 163, 3) := by decide +kernel
theorem dX12_question_301 : decode cX12_question 301 = .ok (.if_icmp .ne 14, 3) := by decide +kernel
theorem dX12_question_304 : decode cX12_question 304 = .ok (.aload_n 0, 1) := by decide +kernel
theorem dX12_question_305 : decode cX12_question 305 = .ok (.getfield 370, 3) := by decide +kernel
theorem dX12_question_308 : decode cX12_question 308 = .ok (.ifCond .ne 7, 3) := by decide +kernel
theorem dX12_question_311 : decode cX12_question 311 = .ok (.aload_n 0, 1) := by decide +kernel
theorem dX12_question_312 : decode cX12_question 312 = .ok (.invokevirtual 449, 3) := by decide +kernel
theorem dX12_question_315 : decode cX12_question 315 = .ok (.aload_n 0, 1) := by decide +kernel
theorem dX12_question_316 : decode cX12_question 316 = .ok (.getfield 21, 3) := by decide +kernel
theorem dX12_question_319 : decode cX12_question 319 = .ok (.bipush 6, 2) := by decide +kernel
theorem dX12_question_321 : decode cX12_question 321 = .ok (.dup2, 1) := by decide +kernel
theorem dX12_question_322 : decode cX12_question 322 = .ok (.iaload, 1) := by decide +kernel
theorem dX12_question_323 : decode cX12_question 323 = .ok (.iconst 1, 1) := by decide +kernel
theorem dX12_question_324 : decode cX12_question 324 = .ok (.iadd, 1) := by decide +kernel
theorem dX12_question_325 : decode cX12_question 325 = .ok (.iastore, 1) := by decide +kernel
theorem dX12_question_326 : decode cX12_question 326 = .ok (.aload_n 0, 1) := by decide +kernel
theorem dX12_question_327 : decode cX12_question 327 = .ok (.getfield 21, 3) := by decide +kernel
theorem dX12_question_330 : decode cX12_question 330 = .ok (.bipush 7, 2) := by decide +kernel
theorem dX12_question_332 : decode cX12_question 332 = .ok (.dup2, 1) := by decide +kernel
theorem dX12_question_333 : decode cX12_question 333 = .ok (.iaload, 1) := by decide +kernel
theorem dX12_question_334 : decode cX12_question 334 = .ok (.aload_n 0, 1) := by decide +kernel
theorem dX12_question_335 : decode cX12_question 335 = .ok (.getfield 370, 3) := by decide +kernel
theorem dX12_question_338 : decode cX12_question 338 = .ok (.ifCond .le 7, 3) := by decide +kernel
theorem dX12_question_341 : decode cX12_question 341 = .ok (.iconst 1, 1) := by decide +kernel
theorem dX12_question_342 : decode cX12_question 342 = .ok (.goto 4, 3) := by decide +kernel
theorem dX12_question_345 : decode cX12_question 345 = .ok (.iconst 0, 1) := by decide +kernel
theorem dX12_question_346 : decode cX12_question 346 = .ok (.iadd, 1) := by decide +kernel
theorem dX12_question_347 : decode cX12_question 347 = .ok (.iastore, 1) := by decide +kernel
theorem dX12_question_348 : decode cX12_question 348 = .ok (.aload_n 0, 1) := by decide +kernel
theorem dX12_question_349 : decode cX12_question 349 = .ok (.getfield 402, 3) := by decide +kernel
theorem dX12_question_352 : decode cX12_question 352 = .ok (.ireturn, 1) := by decide +kernel
theorem dX12_answer_0 : decode cX12_answer 0 = .ok (.aload_n 0, 1) := by decide +kernel
theorem dX12_answer_1 : decode cX12_answer 1 = .ok (.iconst 0, 1) := by decide +kernel
theorem dX12_answer_2 : decode cX12_answer 2 = .ok (.putfield 137, 3) := by decide +kernel
theorem dX12_answer_5 : decode cX12_answer 5 = .ok (.iload_n 1, 1) := by decide +kernel
theorem dX12_answer_6 : decode cX12_answer 6 = .ok (.i2l, 1) := by decide +kernel
theorem dX12_answer_7 : decode cX12_answer 7 = .ok (.lconst 0, 1) := by decide +kernel
theorem dX12_answer_8 : decode cX12_answer 8 = .ok (.aload_n 0, 1) := by decide +kernel
theorem dX12_answer_9 : decode cX12_answer 9 = .ok (.getfield 402, 3) := by decide +kernel
theorem dX12_answer_12 : decode cX12_answer 12 = .ok (.iconst 1, 1) := by decide +kernel
theorem dX12_answer_13 : decode cX12_answer 13 = .ok (.isub, 1) := by decide +kernel
theorem dX12_answer_14 : decode cX12_answer 14 = .ok (.i2l, 1) := by decide +kernel
theorem dX12_answer_15 : decode cX12_answer 15 = .ok (.invokestatic 142, 3) := by decide +kernel
theorem dX12_answer_18 : decode cX12_answer 18 = .ok (.ifCond .eq 16, 3) := by decide +kernel
theorem dX12_answer_21 : decode cX12_answer 21 = .ok (.aload_n 0, 1) := by decide +kernel
theorem dX12_answer_22 : decode cX12_answer 22 = .ok (.getfield 131, 3) := by decide +kernel
theorem dX12_answer_25 : decode cX12_answer 25 = .ok (.iload_n 1, 1) := by decide +kernel
theorem dX12_answer_26 : decode cX12_answer 26 = .ok (.baload, 1) := by decide +kernel
theorem dX12_answer_27 : decode cX12_answer 27 = .ok (.sipush 255, 3) := by decide +kernel
theorem dX12_answer_30 : decode cX12_answer 30 = .ok (.iand, 1) := by decide +kernel
theorem dX12_answer_31 : decode cX12_answer 31 = .ok (.goto 4, 3) := by decide +kernel
theorem dX12_answer_34 : decode cX12_answer 34 = .ok (.iconst (-1), 1) := by decide +kernel
theorem dX12_answer_35 : decode cX12_answer 35 = .ok (.ireturn, 1) := by decide +kernel
theorem dX12_count_0 : decode cX12_count 0 = .ok (.aload_n 0, 1) := by decide +kernel
theorem dX12_count_1 : decode cX12_count 1 = .ok (.iconst 0, 1) := by decide +kernel
theorem dX12_count_2 : decode cX12_count 2 = .ok (.putfield 137, 3) := by decide +kernel
theorem dX12_count_5 : decode cX12_count 5 = .ok (.iload_n 1, 1) := by decide +kernel
theorem dX12_count_6 : decode cX12_count 6 = .ok (.ifCond .ne 10, 3) := by decide +kernel
theorem dX12_count_9 : decode cX12_count 9 = .ok (.aload_n 0, 1) := by decide +kernel
theorem dX12_count_10 : decode cX12_count 10 = .ok (.getfield 160, 3) := by decide +kernel
theorem dX12_count_13 : decode cX12_count 13 = .ok (.goto 52, 3) := by decide +kernel
theorem dX12_count_16 : decode cX12_count 16 = .ok (.iload_n 1, 1) := by decide +kernel
theorem dX12_count_17 : decode cX12_count 17 = .ok (.i2l, 1) := by decide +kernel
theorem dX12_count_18 : decode cX12_count 18 = .ok (.lconst 1, 1) := by decide +kernel
theorem dX12_count_19 : decode cX12_count 19 = .ok (.ldc2_w 452, 3) := by decide +kernel
theorem dX12_count_22 : decode cX12_count 22 = .ok (.invokestatic 142, 3) := by decide +kernel
theorem dX12_count_25 : decode cX12_count 25 = .ok (.ifCond .eq 12, 3) := by decide +kernel
theorem dX12_count_28 : decode cX12_count 28 = .ok (.aload_n 0, 1) := by decide +kernel
theorem dX12_count_29 : decode cX12_count 29 = .ok (.getfield 21, 3) := by decide +kernel
theorem dX12_count_32 : decode cX12_count 32 = .ok (.iload_n 1, 1) := by decide +kernel
theorem dX12_count_33 : decode cX12_count 33 = .ok (.iaload, 1) := by decide +kernel
theorem dX12_count_34 : decode cX12_count 34 = .ok (.goto 31, 3) := by decide +kernel
theorem dX12_count_37 : decode cX12_count 37 = .ok (.iload_n 1, 1) := by decide +kernel
theorem dX12_count_38 : decode cX12_count 38 = .ok (.bipush 8, 2) := by decide +kernel
theorem dX12_count_40 : decode cX12_count 40 = .ok (.if_icmp .ne 10, 3) := by decide +kernel
theorem dX12_count_43 : decode cX12_count 43 = .ok (.aload_n 0, 1) := by decide +kernel
theorem dX12_count_44 : decode cX12_count 44 = .ok (.getfield 219, 3) := by decide +kernel
theorem dX12_count_47 : decode cX12_count 47 = .ok (.goto 18, 3) := by decide +kernel
theorem dX12_count_50 : decode cX12_count 50 = .ok (.iload_n 1, 1) := by decide +kernel
theorem dX12_count_51 : decode cX12_count 51 = .ok (.bipush 9, 2) := by decide +kernel
theorem dX12_count_53 : decode cX12_count 53 = .ok (.if_icmp .ne 10, 3) := by decide +kernel
theorem dX12_count_56 : decode cX12_count 56 = .ok (.aload_n 0, 1) := by decide +kernel
theorem dX12_count_57 : decode cX12_count 57 = .ok (.getfield 134, 3) := by decide +kernel
theorem dX12_count_60 : decode cX12_count 60 = .ok (.goto 5, 3) := by decide +kernel
theorem dX12_count_63 : decode cX12_count 63 = .ok (.bipush (-2), 2) := by decide +kernel
theorem dX12_count_65 : decode cX12_count 65 = .ok (.ireturn, 1) := by decide +kernel
theorem dX12_rows_0 : decode cX12_rows 0 = .ok (.aload_n 0, 1) := by decide +kernel
theorem dX12_rows_1 : decode cX12_rows 1 = .ok (.iconst 0, 1) := by decide +kernel
theorem dX12_rows_2 : decode cX12_rows 2 = .ok (.putfield 137, 3) := by decide +kernel
theorem dX12_rows_5 : decode cX12_rows 5 = .ok (.iload_n 1, 1) := by decide +kernel
theorem dX12_rows_6 : decode cX12_rows 6 = .ok (.i2l, 1) := by decide +kernel
theorem dX12_rows_7 : decode cX12_rows 7 = .ok (.lconst 0, 1) := by decide +kernel
theorem dX12_rows_8 : decode cX12_rows 8 = .ok (.aload_n 0, 1) := by decide +kernel
theorem dX12_rows_9 : decode cX12_rows 9 = .ok (.getfield 134, 3) := by decide +kernel
theorem dX12_rows_12 : decode cX12_rows 12 = .ok (.iconst 1, 1) := by decide +kernel
theorem dX12_rows_13 : decode cX12_rows 13 = .ok (.isub, 1) := by decide +kernel
theorem dX12_rows_14 : decode cX12_rows 14 = .ok (.i2l, 1) := by decide +kernel
theorem dX12_rows_15 : decode cX12_rows 15 = .ok (.invokestatic 142, 3) := by decide +kernel
theorem dX12_rows_18 : decode cX12_rows 18 = .ok (.ifCond .eq 12, 3) := by decide +kernel
theorem dX12_rows_21 : decode cX12_rows 21 = .ok (.aload_n 0, 1) := by decide +kernel
theorem dX12_rows_22 : decode cX12_rows 22 = .ok (.getfield 74, 3) := by decide +kernel
theorem dX12_rows_25 : decode cX12_rows 25 = .ok (.iload_n 1, 1) := by decide +kernel
theorem dX12_rows_26 : decode cX12_rows 26 = .ok (.iaload, 1) := by decide +kernel
theorem dX12_rows_27 : decode cX12_rows 27 = .ok (.goto 4, 3) := by decide +kernel
theorem dX12_rows_30 : decode cX12_rows 30 = .ok (.iconst (-1), 1) := by decide +kernel
theorem dX12_rows_31 : decode cX12_rows 31 = .ok (.ireturn, 1) := by decide +kernel
theorem dX12_told_0 : decode cX12_told 0 = .ok (.aload_n 0, 1) := by decide +kernel
theorem dX12_told_1 : decode cX12_told 1 = .ok (.iconst 0, 1) := by decide +kernel
theorem dX12_told_2 : decode cX12_told 2 = .ok (.putfield 137, 3) := by decide +kernel
theorem dX12_told_5 : decode cX12_told 5 = .ok (.aload_n 0, 1) := by decide +kernel
theorem dX12_told_6 : decode cX12_told 6 = .ok (.iload_n 1, 1) := by decide +kernel
theorem dX12_told_7 : decode cX12_told 7 = .ok (.iload_n 2, 1) := by decide +kernel
theorem dX12_told_8 : decode cX12_told 8 = .ok (.invokevirtual 207, 3) := by decide +kernel
theorem dX12_told_11 : decode cX12_told 11 = .ok (.istore_n 3, 1) := by decide +kernel
theorem dX12_told_12 : decode cX12_told 12 = .ok (.iload_n 3, 1) := by decide +kernel
theorem dX12_told_13 : decode cX12_told 13 = .ok (.ifCond .ge 7, 3) := by decide +kernel
theorem dX12_told_16 : decode cX12_told 16 = .ok (.ldc2_w 149, 3) := by decide +kernel
theorem dX12_told_19 : decode cX12_told 19 = .ok (.lreturn, 1) := by decide +kernel
theorem dX12_told_20 : decode cX12_told 20 = .ok (.aload_n 0, 1) := by decide +kernel
theorem dX12_told_21 : decode cX12_told 21 = .ok (.getfield 31, 3) := by decide +kernel
theorem dX12_told_24 : decode cX12_told 24 = .ok (.iload_n 1, 1) := by decide +kernel
theorem dX12_told_25 : decode cX12_told 25 = .ok (.iaload, 1) := by decide +kernel
theorem dX12_told_26 : decode cX12_told 26 = .ok (.iconst 4, 1) := by decide +kernel
theorem dX12_told_27 : decode cX12_told 27 = .ok (.if_icmp .ne 13, 3) := by decide +kernel
theorem dX12_told_30 : decode cX12_told 30 = .ok (.aload_n 0, 1) := by decide +kernel
theorem dX12_told_31 : decode cX12_told 31 = .ok (.getfield 56, 3) := by decide +kernel
theorem dX12_told_34 : decode cX12_told 34 = .ok (.iload_n 3, 1) := by decide +kernel
theorem dX12_told_35 : decode cX12_told 35 = .ok (.iaload, 1) := by decide +kernel
theorem dX12_told_36 : decode cX12_told 36 = .ok (.i2l, 1) := by decide +kernel
theorem dX12_told_37 : decode cX12_told 37 = .ok (.goto 30, 3) := by decide +kernel
theorem dX12_told_40 : decode cX12_told 40 = .ok (.aload_n 0, 1) := by decide +kernel
theorem dX12_told_41 : decode cX12_told 41 = .ok (.getfield 31, 3) := by decide +kernel
theorem dX12_told_44 : decode cX12_told 44 = .ok (.iload_n 1, 1) := by decide +kernel
theorem dX12_told_45 : decode cX12_told 45 = .ok (.iaload, 1) := by decide +kernel
theorem dX12_told_46 : decode cX12_told 46 = .ok (.bipush 6, 2) := by decide +kernel
theorem dX12_told_48 : decode cX12_told 48 = .ok (.if_icmp .ne 13, 3) := by decide +kernel
theorem dX12_told_51 : decode cX12_told 51 = .ok (.aload_n 0, 1) := by decide +kernel
theorem dX12_told_52 : decode cX12_told 52 = .ok (.getfield 62, 3) := by decide +kernel
theorem dX12_told_55 : decode cX12_told 55 = .ok (.iload_n 3, 1) := by decide +kernel
theorem dX12_told_56 : decode cX12_told 56 = .ok (.iaload, 1) := by decide +kernel
theorem dX12_told_57 : decode cX12_told 57 = .ok (.i2l, 1) := by decide +kernel
theorem dX12_told_58 : decode cX12_told 58 = .ok (.goto 9, 3) := by decide +kernel
theorem dX12_told_61 : decode cX12_told 61 = .ok (.aload_n 0, 1) := by decide +kernel
theorem dX12_told_62 : decode cX12_told 62 = .ok (.iload_n 1, 1) := by decide +kernel
theorem dX12_told_63 : decode cX12_told 63 = .ok (.iload_n 3, 1) := by decide +kernel
theorem dX12_told_64 : decode cX12_told 64 = .ok (.invokevirtual 316, 3) := by decide +kernel
theorem dX12_told_67 : decode cX12_told 67 = .ok (.lreturn, 1) := by decide +kernel
theorem dX12_part_0 : decode cX12_part 0 = .ok (.aload_n 0, 1) := by decide +kernel
theorem dX12_part_1 : decode cX12_part 1 = .ok (.iconst 0, 1) := by decide +kernel
theorem dX12_part_2 : decode cX12_part 2 = .ok (.putfield 137, 3) := by decide +kernel
theorem dX12_part_5 : decode cX12_part 5 = .ok (.aload_n 0, 1) := by decide +kernel
theorem dX12_part_6 : decode cX12_part 6 = .ok (.iload_n 1, 1) := by decide +kernel
theorem dX12_part_7 : decode cX12_part 7 = .ok (.iload_n 2, 1) := by decide +kernel
theorem dX12_part_8 : decode cX12_part 8 = .ok (.invokevirtual 207, 3) := by decide +kernel
theorem dX12_part_11 : decode cX12_part 11 = .ok (.istore 4, 2) := by decide +kernel
theorem dX12_part_13 : decode cX12_part 13 = .ok (.iload 4, 2) := by decide +kernel
theorem dX12_part_15 : decode cX12_part 15 = .ok (.ifCond .lt 24, 3) := by decide +kernel
theorem dX12_part_18 : decode cX12_part 18 = .ok (.aload_n 0, 1) := by decide +kernel
theorem dX12_part_19 : decode cX12_part 19 = .ok (.getfield 31, 3) := by decide +kernel
theorem dX12_part_22 : decode cX12_part 22 = .ok (.iload_n 1, 1) := by decide +kernel
theorem dX12_part_23 : decode cX12_part 23 = .ok (.iaload, 1) := by decide +kernel
theorem dX12_part_24 : decode cX12_part 24 = .ok (.iconst 4, 1) := by decide +kernel
theorem dX12_part_25 : decode cX12_part 25 = .ok (.if_icmp .eq 18, 3) := by decide +kernel
theorem dX12_part_28 : decode cX12_part 28 = .ok (.aload_n 0, 1) := by decide +kernel
theorem dX12_part_29 : decode cX12_part 29 = .ok (.getfield 31, 3) := by decide +kernel
theorem dX12_part_32 : decode cX12_part 32 = .ok (.iload_n 1, 1) := by decide +kernel
theorem dX12_part_33 : decode cX12_part 33 = .ok (.iaload, 1) := by decide +kernel
theorem dX12_part_34 : decode cX12_part 34 = .ok (.bipush 6, 2) := by decide +kernel
theorem dX12_part_36 : decode cX12_part 36 = .ok (.if_icmp .eq 7, 3) := by decide +kernel
theorem dX12_part_39 : decode cX12_part 39 = .ok (.ldc2_w 149, 3) := by decide +kernel
theorem dX12_part_42 : decode cX12_part 42 = .ok (.lreturn, 1) := by decide +kernel
theorem dX12_part_43 : decode cX12_part 43 = .ok (.aload_n 0, 1) := by decide +kernel
theorem dX12_part_44 : decode cX12_part 44 = .ok (.getfield 31, 3) := by decide +kernel
theorem dX12_part_47 : decode cX12_part 47 = .ok (.iload_n 1, 1) := by decide +kernel
theorem dX12_part_48 : decode cX12_part 48 = .ok (.iaload, 1) := by decide +kernel
theorem dX12_part_49 : decode cX12_part 49 = .ok (.iconst 4, 1) := by decide +kernel
theorem dX12_part_50 : decode cX12_part 50 = .ok (.if_icmp .ne 46, 3) := by decide +kernel
theorem dX12_part_53 : decode cX12_part 53 = .ok (.iload_n 3, 1) := by decide +kernel
theorem dX12_part_54 : decode cX12_part 54 = .ok (.i2l, 1) := by decide +kernel
theorem dX12_part_55 : decode cX12_part 55 = .ok (.lconst 0, 1) := by decide +kernel
theorem dX12_part_56 : decode cX12_part 56 = .ok (.aload_n 0, 1) := by decide +kernel
theorem dX12_part_57 : decode cX12_part 57 = .ok (.getfield 56, 3) := by decide +kernel
theorem dX12_part_60 : decode cX12_part 60 = .ok (.iload 4, 2) := by decide +kernel
theorem dX12_part_62 : decode cX12_part 62 = .ok (.iaload, 1) := by decide +kernel
theorem dX12_part_63 : decode cX12_part 63 = .ok (.iconst 1, 1) := by decide +kernel
theorem dX12_part_64 : decode cX12_part 64 = .ok (.isub, 1) := by decide +kernel
theorem dX12_part_65 : decode cX12_part 65 = .ok (.i2l, 1) := by decide +kernel
theorem dX12_part_66 : decode cX12_part 66 = .ok (.invokestatic 142, 3) := by decide +kernel
theorem dX12_part_69 : decode cX12_part 69 = .ok (.ifCond .eq 23, 3) := by decide +kernel
theorem dX12_part_72 : decode cX12_part 72 = .ok (.aload_n 0, 1) := by decide +kernel
theorem dX12_part_73 : decode cX12_part 73 = .ok (.getfield 53, 3) := by decide +kernel
theorem dX12_part_76 : decode cX12_part 76 = .ok (.bipush 40, 2) := by decide +kernel
theorem dX12_part_78 : decode cX12_part 78 = .ok (.iload 4, 2) := by decide +kernel
theorem dX12_part_80 : decode cX12_part 80 = .ok (.imul, 1) := by decide +kernel
theorem dX12_part_81 : decode cX12_part 81 = .ok (.iload_n 3, 1) := by decide +kernel
theorem dX12_part_82 : decode cX12_part 82 = .ok (.iadd, 1) := by decide +kernel
theorem dX12_part_83 : decode cX12_part 83 = .ok (.baload, 1) := by decide +kernel
theorem dX12_part_84 : decode cX12_part 84 = .ok (.sipush 255, 3) := by decide +kernel
theorem dX12_part_87 : decode cX12_part 87 = .ok (.iand, 1) := by decide +kernel
theorem dX12_part_88 : decode cX12_part 88 = .ok (.i2l, 1) := by decide +kernel
theorem dX12_part_89 : decode cX12_part 89 = .ok (.goto 6, 3) := by decide +kernel
theorem dX12_part_92 : decode cX12_part 92 = .ok (.ldc2_w 149, 3) := by decide +kernel
theorem dX12_part_95 : decode cX12_part 95 = .ok (.lreturn, 1) := by decide +kernel
theorem dX12_part_96 : decode cX12_part 96 = .ok (.iload_n 3, 1) := by decide +kernel
theorem dX12_part_97 : decode cX12_part 97 = .ok (.i2l, 1) := by decide +kernel
theorem dX12_part_98 : decode cX12_part 98 = .ok (.lconst 0, 1) := by decide +kernel
theorem dX12_part_99 : decode cX12_part 99 = .ok (.aload_n 0, 1) := by decide +kernel
theorem dX12_part_100 : decode cX12_part 100 = .ok (.getfield 62, 3) := by decide +kernel
theorem dX12_part_103 : decode cX12_part 103 = .ok (.iload 4, 2) := by decide +kernel
theorem dX12_part_105 : decode cX12_part 105 = .ok (.iaload, 1) := by decide +kernel
theorem dX12_part_106 : decode cX12_part 106 = .ok (.iconst 1, 1) := by decide +kernel
theorem dX12_part_107 : decode cX12_part 107 = .ok (.isub, 1) := by decide +kernel
theorem dX12_part_108 : decode cX12_part 108 = .ok (.i2l, 1) := by decide +kernel
theorem dX12_part_109 : decode cX12_part 109 = .ok (.invokestatic 142, 3) := by decide +kernel
theorem dX12_part_112 : decode cX12_part 112 = .ok (.ifCond .eq 18, 3) := by decide +kernel
theorem dX12_part_115 : decode cX12_part 115 = .ok (.aload_n 0, 1) := by decide +kernel
theorem dX12_part_116 : decode cX12_part 116 = .ok (.getfield 59, 3) := by decide +kernel
theorem dX12_part_119 : decode cX12_part 119 = .ok (.bipush 16, 2) := by decide +kernel
theorem dX12_part_121 : decode cX12_part 121 = .ok (.iload 4, 2) := by decide +kernel
theorem dX12_part_123 : decode cX12_part 123 = .ok (.imul, 1) := by decide +kernel
theorem dX12_part_124 : decode cX12_part 124 = .ok (.iload_n 3, 1) := by decide +kernel
theorem dX12_part_125 : decode cX12_part 125 = .ok (.iadd, 1) := by decide +kernel
theorem dX12_part_126 : decode cX12_part 126 = .ok (.laload, 1) := by decide +kernel
theorem dX12_part_127 : decode cX12_part 127 = .ok (.goto 6, 3) := by decide +kernel
theorem dX12_part_130 : decode cX12_part 130 = .ok (.ldc2_w 149, 3) := by decide +kernel
theorem dX12_part_133 : decode cX12_part 133 = .ok (.lreturn, 1) := by decide +kernel
theorem dL_law_0 : decode cL_law 0 = .ok (.new 7, 3) := by decide +kernel
theorem dL_law_3 : decode cL_law 3 = .ok (.dup, 1) := by decide +kernel
theorem dL_law_4 : decode cL_law 4 = .ok (.invokespecial 9, 3) := by decide +kernel
theorem dL_law_7 : decode cL_law 7 = .ok (.astore_n 1, 1) := by decide +kernel
theorem dL_law_8 : decode cL_law 8 = .ok (.new 10, 3) := by decide +kernel
theorem dL_law_11 : decode cL_law 11 = .ok (.dup, 1) := by decide +kernel
theorem dL_law_12 : decode cL_law 12 = .ok (.invokespecial 12, 3) := by decide +kernel
theorem dL_law_15 : decode cL_law 15 = .ok (.astore_n 2, 1) := by decide +kernel
theorem dL_law_16 : decode cL_law 16 = .ok (.iconst 0, 1) := by decide +kernel
theorem dL_law_17 : decode cL_law 17 = .ok (.istore_n 3, 1) := by decide +kernel
theorem dL_law_18 : decode cL_law 18 = .ok (.iload_n 3, 1) := by decide +kernel
theorem dL_law_19 : decode cL_law 19 = .ok (.aload_n 0, 1) := by decide +kernel
theorem dL_law_20 : decode cL_law 20 = .ok (.arraylength, 1) := by decide +kernel
theorem dL_law_21 : decode cL_law 21 = .ok (.bipush 9, 2) := by decide +kernel
theorem dL_law_23 : decode cL_law 23 = .ok (.isub, 1) := by decide +kernel
theorem dL_law_24 : decode cL_law 24 = .ok (.if_icmp .gt 1049, 3) := by decide +kernel
theorem dL_law_27 : decode cL_law 27 = .ok (.aload_n 0, 1) := by decide +kernel
theorem dL_law_28 : decode cL_law 28 = .ok (.iload_n 3, 1) := by decide +kernel
theorem dL_law_29 : decode cL_law 29 = .ok (.iaload, 1) := by decide +kernel
theorem dL_law_30 : decode cL_law 30 = .ok (.bipush 31, 2) := by decide +kernel
theorem dL_law_32 : decode cL_law 32 = .ok (.iand, 1) := by decide +kernel
theorem dL_law_33 : decode cL_law 33 = .ok (.tableswitch 1034 0 19 #[95, 158, 211, 326, 339, 478, 511, 570, 643, 676, 709, 748, 797, 820, 874, 887, 910, 933, 956, 990], 95) := by decide +kernel
theorem dL_law_128 : decode cL_law 128 = .ok (.aload_n 1, 1) := by decide +kernel
theorem dL_law_129 : decode cL_law 129 = .ok (.aload_n 0, 1) := by decide +kernel
theorem dL_law_130 : decode cL_law 130 = .ok (.iload_n 3, 1) := by decide +kernel
theorem dL_law_131 : decode cL_law 131 = .ok (.iconst 1, 1) := by decide +kernel
theorem dL_law_132 : decode cL_law 132 = .ok (.iadd, 1) := by decide +kernel
theorem dL_law_133 : decode cL_law 133 = .ok (.iaload, 1) := by decide +kernel
theorem dL_law_134 : decode cL_law 134 = .ok (.i2l, 1) := by decide +kernel
theorem dL_law_135 : decode cL_law 135 = .ok (.bipush 32, 2) := by decide +kernel
theorem dL_law_137 : decode cL_law 137 = .ok (.lshl, 1) := by decide +kernel
theorem dL_law_138 : decode cL_law 138 = .ok (.aload_n 0, 1) := by decide +kernel
theorem dL_law_139 : decode cL_law 139 = .ok (.iload_n 3, 1) := by decide +kernel
theorem dL_law_140 : decode cL_law 140 = .ok (.iconst 2, 1) := by decide +kernel
theorem dL_law_141 : decode cL_law 141 = .ok (.iadd, 1) := by decide +kernel
theorem dL_law_142 : decode cL_law 142 = .ok (.iaload, 1) := by decide +kernel
theorem dL_law_143 : decode cL_law 143 = .ok (.i2l, 1) := by decide +kernel
theorem dL_law_144 : decode cL_law 144 = .ok (.ldc2_w 13, 3) := by decide +kernel
theorem dL_law_147 : decode cL_law 147 = .ok (.land, 1) := by decide +kernel
theorem dL_law_148 : decode cL_law 148 = .ok (.lor, 1) := by decide +kernel
theorem dL_law_149 : decode cL_law 149 = .ok (.aload_n 0, 1) := by decide +kernel
theorem dL_law_150 : decode cL_law 150 = .ok (.iload_n 3, 1) := by decide +kernel
theorem dL_law_151 : decode cL_law 151 = .ok (.iconst 3, 1) := by decide +kernel
theorem dL_law_152 : decode cL_law 152 = .ok (.iadd, 1) := by decide +kernel
theorem dL_law_153 : decode cL_law 153 = .ok (.iaload, 1) := by decide +kernel
theorem dL_law_154 : decode cL_law 154 = .ok (.invokevirtual 15, 3) := by decide +kernel
theorem dL_law_157 : decode cL_law 157 = .ok (.aload_n 2, 1) := by decide +kernel
theorem dL_law_158 : decode cL_law 158 = .ok (.aload_n 0, 1) := by decide +kernel
theorem dL_law_159 : decode cL_law 159 = .ok (.iload_n 3, 1) := by decide +kernel
theorem dL_law_160 : decode cL_law 160 = .ok (.iconst 1, 1) := by decide +kernel
theorem dL_law_161 : decode cL_law 161 = .ok (.iadd, 1) := by decide +kernel
theorem dL_law_162 : decode cL_law 162 = .ok (.iaload, 1) := by decide +kernel
theorem dL_law_163 : decode cL_law 163 = .ok (.i2l, 1) := by decide +kernel
theorem dL_law_164 : decode cL_law 164 = .ok (.bipush 32, 2) := by decide +kernel
theorem dL_law_166 : decode cL_law 166 = .ok (.lshl, 1) := by decide +kernel
theorem dL_law_167 : decode cL_law 167 = .ok (.aload_n 0, 1) := by decide +kernel
theorem dL_law_168 : decode cL_law 168 = .ok (.iload_n 3, 1) := by decide +kernel
theorem dL_law_169 : decode cL_law 169 = .ok (.iconst 2, 1) := by decide +kernel
theorem dL_law_170 : decode cL_law 170 = .ok (.iadd, 1) := by decide +kernel
theorem dL_law_171 : decode cL_law 171 = .ok (.iaload, 1) := by decide +kernel
theorem dL_law_172 : decode cL_law 172 = .ok (.i2l, 1) := by decide +kernel
theorem dL_law_173 : decode cL_law 173 = .ok (.ldc2_w 13, 3) := by decide +kernel
theorem dL_law_176 : decode cL_law 176 = .ok (.land, 1) := by decide +kernel
theorem dL_law_177 : decode cL_law 177 = .ok (.lor, 1) := by decide +kernel
theorem dL_law_178 : decode cL_law 178 = .ok (.aload_n 0, 1) := by decide +kernel
theorem dL_law_179 : decode cL_law 179 = .ok (.iload_n 3, 1) := by decide +kernel
theorem dL_law_180 : decode cL_law 180 = .ok (.iconst 3, 1) := by decide +kernel
theorem dL_law_181 : decode cL_law 181 = .ok (.iadd, 1) := by decide +kernel
theorem dL_law_182 : decode cL_law 182 = .ok (.iaload, 1) := by decide +kernel
theorem dL_law_183 : decode cL_law 183 = .ok (.invokevirtual 19, 3) := by decide +kernel
theorem dL_law_186 : decode cL_law 186 = .ok (.if_icmp .eq 881, 3) := by decide +kernel
theorem dL_law_189 : decode cL_law 189 = .ok (.iconst 0, 1) := by decide +kernel
theorem dL_law_190 : decode cL_law 190 = .ok (.ireturn, 1) := by decide +kernel
theorem dL_law_191 : decode cL_law 191 = .ok (.aload_n 1, 1) := by decide +kernel
theorem dL_law_192 : decode cL_law 192 = .ok (.aload_n 0, 1) := by decide +kernel
theorem dL_law_193 : decode cL_law 193 = .ok (.iload_n 3, 1) := by decide +kernel
theorem dL_law_194 : decode cL_law 194 = .ok (.iconst 1, 1) := by decide +kernel
theorem dL_law_195 : decode cL_law 195 = .ok (.iadd, 1) := by decide +kernel
theorem dL_law_196 : decode cL_law 196 = .ok (.iaload, 1) := by decide +kernel
theorem dL_law_197 : decode cL_law 197 = .ok (.i2l, 1) := by decide +kernel
theorem dL_law_198 : decode cL_law 198 = .ok (.bipush 32, 2) := by decide +kernel
theorem dL_law_200 : decode cL_law 200 = .ok (.lshl, 1) := by decide +kernel
theorem dL_law_201 : decode cL_law 201 = .ok (.aload_n 0, 1) := by decide +kernel
theorem dL_law_202 : decode cL_law 202 = .ok (.iload_n 3, 1) := by decide +kernel
theorem dL_law_203 : decode cL_law 203 = .ok (.iconst 2, 1) := by decide +kernel
theorem dL_law_204 : decode cL_law 204 = .ok (.iadd, 1) := by decide +kernel
theorem dL_law_205 : decode cL_law 205 = .ok (.iaload, 1) := by decide +kernel
theorem dL_law_206 : decode cL_law 206 = .ok (.i2l, 1) := by decide +kernel
theorem dL_law_207 : decode cL_law 207 = .ok (.ldc2_w 13, 3) := by decide +kernel
theorem dL_law_210 : decode cL_law 210 = .ok (.land, 1) := by decide +kernel
theorem dL_law_211 : decode cL_law 211 = .ok (.lor, 1) := by decide +kernel
theorem dL_law_212 : decode cL_law 212 = .ok (.invokevirtual 20, 3) := by decide +kernel
theorem dL_law_215 : decode cL_law 215 = .ok (.aload_n 2, 1) := by decide +kernel
theorem dL_law_216 : decode cL_law 216 = .ok (.aload_n 0, 1) := by decide +kernel
theorem dL_law_217 : decode cL_law 217 = .ok (.iload_n 3, 1) := by decide +kernel
theorem dL_law_218 : decode cL_law 218 = .ok (.iconst 1, 1) := by decide +kernel
theorem dL_law_219 : decode cL_law 219 = .ok (.iadd, 1) := by decide +kernel
theorem dL_law_220 : decode cL_law 220 = .ok (.iaload, 1) := by decide +kernel
theorem dL_law_221 : decode cL_law 221 = .ok (.i2l, 1) := by decide +kernel
theorem dL_law_222 : decode cL_law 222 = .ok (.bipush 32, 2) := by decide +kernel
theorem dL_law_224 : decode cL_law 224 = .ok (.lshl, 1) := by decide +kernel
theorem dL_law_225 : decode cL_law 225 = .ok (.aload_n 0, 1) := by decide +kernel
theorem dL_law_226 : decode cL_law 226 = .ok (.iload_n 3, 1) := by decide +kernel
theorem dL_law_227 : decode cL_law 227 = .ok (.iconst 2, 1) := by decide +kernel
theorem dL_law_228 : decode cL_law 228 = .ok (.iadd, 1) := by decide +kernel
theorem dL_law_229 : decode cL_law 229 = .ok (.iaload, 1) := by decide +kernel
theorem dL_law_230 : decode cL_law 230 = .ok (.i2l, 1) := by decide +kernel
theorem dL_law_231 : decode cL_law 231 = .ok (.ldc2_w 13, 3) := by decide +kernel
theorem dL_law_234 : decode cL_law 234 = .ok (.land, 1) := by decide +kernel
theorem dL_law_235 : decode cL_law 235 = .ok (.lor, 1) := by decide +kernel
theorem dL_law_236 : decode cL_law 236 = .ok (.invokevirtual 24, 3) := by decide +kernel
theorem dL_law_239 : decode cL_law 239 = .ok (.if_icmp .eq 828, 3) := by decide +kernel
theorem dL_law_242 : decode cL_law 242 = .ok (.iconst 0, 1) := by decide +kernel
theorem dL_law_243 : decode cL_law 243 = .ok (.ireturn, 1) := by decide +kernel
theorem dL_law_244 : decode cL_law 244 = .ok (.aload_n 1, 1) := by decide +kernel
theorem dL_law_245 : decode cL_law 245 = .ok (.aload_n 0, 1) := by decide +kernel
theorem dL_law_246 : decode cL_law 246 = .ok (.iload_n 3, 1) := by decide +kernel
theorem dL_law_247 : decode cL_law 247 = .ok (.iconst 1, 1) := by decide +kernel
theorem dL_law_248 : decode cL_law 248 = .ok (.iadd, 1) := by decide +kernel
theorem dL_law_249 : decode cL_law 249 = .ok (.iaload, 1) := by decide +kernel
theorem dL_law_250 : decode cL_law 250 = .ok (.aload_n 0, 1) := by decide +kernel
theorem dL_law_251 : decode cL_law 251 = .ok (.iload_n 3, 1) := by decide +kernel
theorem dL_law_252 : decode cL_law 252 = .ok (.iconst 2, 1) := by decide +kernel
theorem dL_law_253 : decode cL_law 253 = .ok (.iadd, 1) := by decide +kernel
theorem dL_law_254 : decode cL_law 254 = .ok (.iaload, 1) := by decide +kernel
theorem dL_law_255 : decode cL_law 255 = .ok (.aload_n 0, 1) := by decide +kernel
theorem dL_law_256 : decode cL_law 256 = .ok (.iload_n 3, 1) := by decide +kernel
theorem dL_law_257 : decode cL_law 257 = .ok (.iconst 3, 1) := by decide +kernel
theorem dL_law_258 : decode cL_law 258 = .ok (.iadd, 1) := by decide +kernel
theorem dL_law_259 : decode cL_law 259 = .ok (.iaload, 1) := by decide +kernel
theorem dL_law_260 : decode cL_law 260 = .ok (.i2l, 1) := by decide +kernel
theorem dL_law_261 : decode cL_law 261 = .ok (.bipush 32, 2) := by decide +kernel
theorem dL_law_263 : decode cL_law 263 = .ok (.lshl, 1) := by decide +kernel
theorem dL_law_264 : decode cL_law 264 = .ok (.aload_n 0, 1) := by decide +kernel
theorem dL_law_265 : decode cL_law 265 = .ok (.iload_n 3, 1) := by decide +kernel
theorem dL_law_266 : decode cL_law 266 = .ok (.iconst 4, 1) := by decide +kernel
theorem dL_law_267 : decode cL_law 267 = .ok (.iadd, 1) := by decide +kernel
theorem dL_law_268 : decode cL_law 268 = .ok (.iaload, 1) := by decide +kernel
theorem dL_law_269 : decode cL_law 269 = .ok (.i2l, 1) := by decide +kernel
theorem dL_law_270 : decode cL_law 270 = .ok (.ldc2_w 13, 3) := by decide +kernel
theorem dL_law_273 : decode cL_law 273 = .ok (.land, 1) := by decide +kernel
theorem dL_law_274 : decode cL_law 274 = .ok (.lor, 1) := by decide +kernel
theorem dL_law_275 : decode cL_law 275 = .ok (.aload_n 0, 1) := by decide +kernel
theorem dL_law_276 : decode cL_law 276 = .ok (.iload_n 3, 1) := by decide +kernel
theorem dL_law_277 : decode cL_law 277 = .ok (.iconst 5, 1) := by decide +kernel
theorem dL_law_278 : decode cL_law 278 = .ok (.iadd, 1) := by decide +kernel
theorem dL_law_279 : decode cL_law 279 = .ok (.iaload, 1) := by decide +kernel
theorem dL_law_280 : decode cL_law 280 = .ok (.i2l, 1) := by decide +kernel
theorem dL_law_281 : decode cL_law 281 = .ok (.bipush 32, 2) := by decide +kernel
theorem dL_law_283 : decode cL_law 283 = .ok (.lshl, 1) := by decide +kernel
theorem dL_law_284 : decode cL_law 284 = .ok (.aload_n 0, 1) := by decide +kernel
theorem dL_law_285 : decode cL_law 285 = .ok (.iload_n 3, 1) := by decide +kernel
theorem dL_law_286 : decode cL_law 286 = .ok (.bipush 6, 2) := by decide +kernel
theorem dL_law_288 : decode cL_law 288 = .ok (.iadd, 1) := by decide +kernel
theorem dL_law_289 : decode cL_law 289 = .ok (.iaload, 1) := by decide +kernel
theorem dL_law_290 : decode cL_law 290 = .ok (.i2l, 1) := by decide +kernel
theorem dL_law_291 : decode cL_law 291 = .ok (.ldc2_w 13, 3) := by decide +kernel
theorem dL_law_294 : decode cL_law 294 = .ok (.land, 1) := by decide +kernel
theorem dL_law_295 : decode cL_law 295 = .ok (.lor, 1) := by decide +kernel
theorem dL_law_296 : decode cL_law 296 = .ok (.invokevirtual 25, 3) := by decide +kernel
theorem dL_law_299 : decode cL_law 299 = .ok (.aload_n 2, 1) := by decide +kernel
theorem dL_law_300 : decode cL_law 300 = .ok (.aload_n 0, 1) := by decide +kernel
theorem dL_law_301 : decode cL_law 301 = .ok (.iload_n 3, 1) := by decide +kernel
theorem dL_law_302 : decode cL_law 302 = .ok (.iconst 1, 1) := by decide +kernel
theorem dL_law_303 : decode cL_law 303 = .ok (.iadd, 1) := by decide +kernel
theorem dL_law_304 : decode cL_law 304 = .ok (.iaload, 1) := by decide +kernel
theorem dL_law_305 : decode cL_law 305 = .ok (.aload_n 0, 1) := by decide +kernel
theorem dL_law_306 : decode cL_law 306 = .ok (.iload_n 3, 1) := by decide +kernel
theorem dL_law_307 : decode cL_law 307 = .ok (.iconst 2, 1) := by decide +kernel
theorem dL_law_308 : decode cL_law 308 = .ok (.iadd, 1) := by decide +kernel
theorem dL_law_309 : decode cL_law 309 = .ok (.iaload, 1) := by decide +kernel
theorem dL_law_310 : decode cL_law 310 = .ok (.aload_n 0, 1) := by decide +kernel
theorem dL_law_311 : decode cL_law 311 = .ok (.iload_n 3, 1) := by decide +kernel
theorem dL_law_312 : decode cL_law 312 = .ok (.iconst 3, 1) := by decide +kernel
theorem dL_law_313 : decode cL_law 313 = .ok (.iadd, 1) := by decide +kernel
theorem dL_law_314 : decode cL_law 314 = .ok (.iaload, 1) := by decide +kernel
theorem dL_law_315 : decode cL_law 315 = .ok (.i2l, 1) := by decide +kernel
theorem dL_law_316 : decode cL_law 316 = .ok (.bipush 32, 2) := by decide +kernel
theorem dL_law_318 : decode cL_law 318 = .ok (.lshl, 1) := by decide +kernel
theorem dL_law_319 : decode cL_law 319 = .ok (.aload_n 0, 1) := by decide +kernel
theorem dL_law_320 : decode cL_law 320 = .ok (.iload_n 3, 1) := by decide +kernel
theorem dL_law_321 : decode cL_law 321 = .ok (.iconst 4, 1) := by decide +kernel
theorem dL_law_322 : decode cL_law 322 = .ok (.iadd, 1) := by decide +kernel
theorem dL_law_323 : decode cL_law 323 = .ok (.iaload, 1) := by decide +kernel
theorem dL_law_324 : decode cL_law 324 = .ok (.i2l, 1) := by decide +kernel
theorem dL_law_325 : decode cL_law 325 = .ok (.ldc2_w 13, 3) := by decide +kernel
theorem dL_law_328 : decode cL_law 328 = .ok (.land, 1) := by decide +kernel
theorem dL_law_329 : decode cL_law 329 = .ok (.lor, 1) := by decide +kernel
theorem dL_law_330 : decode cL_law 330 = .ok (.aload_n 0, 1) := by decide +kernel
theorem dL_law_331 : decode cL_law 331 = .ok (.iload_n 3, 1) := by decide +kernel
theorem dL_law_332 : decode cL_law 332 = .ok (.iconst 5, 1) := by decide +kernel
theorem dL_law_333 : decode cL_law 333 = .ok (.iadd, 1) := by decide +kernel
theorem dL_law_334 : decode cL_law 334 = .ok (.iaload, 1) := by decide +kernel
theorem dL_law_335 : decode cL_law 335 = .ok (.i2l, 1) := by decide +kernel
theorem dL_law_336 : decode cL_law 336 = .ok (.bipush 32, 2) := by decide +kernel
theorem dL_law_338 : decode cL_law 338 = .ok (.lshl, 1) := by decide +kernel
theorem dL_law_339 : decode cL_law 339 = .ok (.aload_n 0, 1) := by decide +kernel
theorem dL_law_340 : decode cL_law 340 = .ok (.iload_n 3, 1) := by decide +kernel
theorem dL_law_341 : decode cL_law 341 = .ok (.bipush 6, 2) := by decide +kernel
theorem dL_law_343 : decode cL_law 343 = .ok (.iadd, 1) := by decide +kernel
theorem dL_law_344 : decode cL_law 344 = .ok (.iaload, 1) := by decide +kernel
theorem dL_law_345 : decode cL_law 345 = .ok (.i2l, 1) := by decide +kernel
theorem dL_law_346 : decode cL_law 346 = .ok (.ldc2_w 13, 3) := by decide +kernel
theorem dL_law_349 : decode cL_law 349 = .ok (.land, 1) := by decide +kernel
theorem dL_law_350 : decode cL_law 350 = .ok (.lor, 1) := by decide +kernel
theorem dL_law_351 : decode cL_law 351 = .ok (.invokevirtual 29, 3) := by decide +kernel
theorem dL_law_354 : decode cL_law 354 = .ok (.if_icmp .eq 713, 3) := by decide +kernel
theorem dL_law_357 : decode cL_law 357 = .ok (.iconst 0, 1) := by decide +kernel
theorem dL_law_358 : decode cL_law 358 = .ok (.ireturn, 1) := by decide +kernel
theorem dL_law_359 : decode cL_law 359 = .ok (.aload_n 1, 1) := by decide +kernel
theorem dL_law_360 : decode cL_law 360 = .ok (.invokevirtual 30, 3) := by decide +kernel
theorem dL_law_363 : decode cL_law 363 = .ok (.aload_n 2, 1) := by decide +kernel
theorem dL_law_364 : decode cL_law 364 = .ok (.invokevirtual 34, 3) := by decide +kernel
theorem dL_law_367 : decode cL_law 367 = .ok (.if_icmp .eq 700, 3) := by decide +kernel
theorem dL_law_370 : decode cL_law 370 = .ok (.iconst 0, 1) := by decide +kernel
theorem dL_law_371 : decode cL_law 371 = .ok (.ireturn, 1) := by decide +kernel
theorem dL_law_372 : decode cL_law 372 = .ok (.aload_n 1, 1) := by decide +kernel
theorem dL_law_373 : decode cL_law 373 = .ok (.aload_n 0, 1) := by decide +kernel
theorem dL_law_374 : decode cL_law 374 = .ok (.iload_n 3, 1) := by decide +kernel
theorem dL_law_375 : decode cL_law 375 = .ok (.iconst 1, 1) := by decide +kernel
theorem dL_law_376 : decode cL_law 376 = .ok (.iadd, 1) := by decide +kernel
theorem dL_law_377 : decode cL_law 377 = .ok (.iaload, 1) := by decide +kernel
theorem dL_law_378 : decode cL_law 378 = .ok (.aload_n 0, 1) := by decide +kernel
theorem dL_law_379 : decode cL_law 379 = .ok (.iload_n 3, 1) := by decide +kernel
theorem dL_law_380 : decode cL_law 380 = .ok (.iconst 2, 1) := by decide +kernel
theorem dL_law_381 : decode cL_law 381 = .ok (.iadd, 1) := by decide +kernel
theorem dL_law_382 : decode cL_law 382 = .ok (.iaload, 1) := by decide +kernel
theorem dL_law_383 : decode cL_law 383 = .ok (.aload_n 0, 1) := by decide +kernel
theorem dL_law_384 : decode cL_law 384 = .ok (.iload_n 3, 1) := by decide +kernel
theorem dL_law_385 : decode cL_law 385 = .ok (.iconst 3, 1) := by decide +kernel
theorem dL_law_386 : decode cL_law 386 = .ok (.iadd, 1) := by decide +kernel
theorem dL_law_387 : decode cL_law 387 = .ok (.iaload, 1) := by decide +kernel
theorem dL_law_388 : decode cL_law 388 = .ok (.aload_n 0, 1) := by decide +kernel
theorem dL_law_389 : decode cL_law 389 = .ok (.iload_n 3, 1) := by decide +kernel
theorem dL_law_390 : decode cL_law 390 = .ok (.iconst 4, 1) := by decide +kernel
theorem dL_law_391 : decode cL_law 391 = .ok (.iadd, 1) := by decide +kernel
theorem dL_law_392 : decode cL_law 392 = .ok (.iaload, 1) := by decide +kernel
theorem dL_law_393 : decode cL_law 393 = .ok (.aload_n 0, 1) := by decide +kernel
theorem dL_law_394 : decode cL_law 394 = .ok (.iload_n 3, 1) := by decide +kernel
theorem dL_law_395 : decode cL_law 395 = .ok (.iconst 5, 1) := by decide +kernel
theorem dL_law_396 : decode cL_law 396 = .ok (.iadd, 1) := by decide +kernel
theorem dL_law_397 : decode cL_law 397 = .ok (.iaload, 1) := by decide +kernel
theorem dL_law_398 : decode cL_law 398 = .ok (.i2l, 1) := by decide +kernel
theorem dL_law_399 : decode cL_law 399 = .ok (.bipush 32, 2) := by decide +kernel
theorem dL_law_401 : decode cL_law 401 = .ok (.lshl, 1) := by decide +kernel
theorem dL_law_402 : decode cL_law 402 = .ok (.aload_n 0, 1) := by decide +kernel
theorem dL_law_403 : decode cL_law 403 = .ok (.iload_n 3, 1) := by decide +kernel
theorem dL_law_404 : decode cL_law 404 = .ok (.bipush 6, 2) := by decide +kernel
theorem dL_law_406 : decode cL_law 406 = .ok (.iadd, 1) := by decide +kernel
theorem dL_law_407 : decode cL_law 407 = .ok (.iaload, 1) := by decide +kernel
theorem dL_law_408 : decode cL_law 408 = .ok (.i2l, 1) := by decide +kernel
theorem dL_law_409 : decode cL_law 409 = .ok (.ldc2_w 13, 3) := by decide +kernel
theorem dL_law_412 : decode cL_law 412 = .ok (.land, 1) := by decide +kernel
theorem dL_law_413 : decode cL_law 413 = .ok (.lor, 1) := by decide +kernel
theorem dL_law_414 : decode cL_law 414 = .ok (.aload_n 0, 1) := by decide +kernel
theorem dL_law_415 : decode cL_law 415 = .ok (.iload_n 3, 1) := by decide +kernel
theorem dL_law_416 : decode cL_law 416 = .ok (.bipush 7, 2) := by decide +kernel
theorem dL_law_418 : decode cL_law 418 = .ok (.iadd, 1) := by decide +kernel
theorem dL_law_419 : decode cL_law 419 = .ok (.iaload, 1) := by decide +kernel
theorem dL_law_420 : decode cL_law 420 = .ok (.i2l, 1) := by decide +kernel
theorem dL_law_421 : decode cL_law 421 = .ok (.bipush 32, 2) := by decide +kernel
theorem dL_law_423 : decode cL_law 423 = .ok (.lshl, 1) := by decide +kernel
theorem dL_law_424 : decode cL_law 424 = .ok (.aload_n 0, 1) := by decide +kernel
theorem dL_law_425 : decode cL_law 425 = .ok (.iload_n 3, 1) := by decide +kernel
theorem dL_law_426 : decode cL_law 426 = .ok (.bipush 8, 2) := by decide +kernel
theorem dL_law_428 : decode cL_law 428 = .ok (.iadd, 1) := by decide +kernel
theorem dL_law_429 : decode cL_law 429 = .ok (.iaload, 1) := by decide +kernel
theorem dL_law_430 : decode cL_law 430 = .ok (.i2l, 1) := by decide +kernel
theorem dL_law_431 : decode cL_law 431 = .ok (.ldc2_w 13, 3) := by decide +kernel
theorem dL_law_434 : decode cL_law 434 = .ok (.land, 1) := by decide +kernel
theorem dL_law_435 : decode cL_law 435 = .ok (.lor, 1) := by decide +kernel
theorem dL_law_436 : decode cL_law 436 = .ok (.invokevirtual 35, 3) := by decide +kernel
theorem dL_law_439 : decode cL_law 439 = .ok (.aload_n 2, 1) := by decide +kernel
theorem dL_law_440 : decode cL_law 440 = .ok (.aload_n 0, 1) := by decide +kernel
theorem dL_law_441 : decode cL_law 441 = .ok (.iload_n 3, 1) := by decide +kernel
theorem dL_law_442 : decode cL_law 442 = .ok (.iconst 1, 1) := by decide +kernel
theorem dL_law_443 : decode cL_law 443 = .ok (.iadd, 1) := by decide +kernel
theorem dL_law_444 : decode cL_law 444 = .ok (.iaload, 1) := by decide +kernel
theorem dL_law_445 : decode cL_law 445 = .ok (.aload_n 0, 1) := by decide +kernel
theorem dL_law_446 : decode cL_law 446 = .ok (.iload_n 3, 1) := by decide +kernel
theorem dL_law_447 : decode cL_law 447 = .ok (.iconst 2, 1) := by decide +kernel
theorem dL_law_448 : decode cL_law 448 = .ok (.iadd, 1) := by decide +kernel
theorem dL_law_449 : decode cL_law 449 = .ok (.iaload, 1) := by decide +kernel
theorem dL_law_450 : decode cL_law 450 = .ok (.aload_n 0, 1) := by decide +kernel
theorem dL_law_451 : decode cL_law 451 = .ok (.iload_n 3, 1) := by decide +kernel
theorem dL_law_452 : decode cL_law 452 = .ok (.iconst 3, 1) := by decide +kernel
theorem dL_law_453 : decode cL_law 453 = .ok (.iadd, 1) := by decide +kernel
theorem dL_law_454 : decode cL_law 454 = .ok (.iaload, 1) := by decide +kernel
theorem dL_law_455 : decode cL_law 455 = .ok (.aload_n 0, 1) := by decide +kernel
theorem dL_law_456 : decode cL_law 456 = .ok (.iload_n 3, 1) := by decide +kernel
theorem dL_law_457 : decode cL_law 457 = .ok (.iconst 4, 1) := by decide +kernel
theorem dL_law_458 : decode cL_law 458 = .ok (.iadd, 1) := by decide +kernel
theorem dL_law_459 : decode cL_law 459 = .ok (.iaload, 1) := by decide +kernel
theorem dL_law_460 : decode cL_law 460 = .ok (.aload_n 0, 1) := by decide +kernel
theorem dL_law_461 : decode cL_law 461 = .ok (.iload_n 3, 1) := by decide +kernel
theorem dL_law_462 : decode cL_law 462 = .ok (.iconst 5, 1) := by decide +kernel
theorem dL_law_463 : decode cL_law 463 = .ok (.iadd, 1) := by decide +kernel
theorem dL_law_464 : decode cL_law 464 = .ok (.iaload, 1) := by decide +kernel
theorem dL_law_465 : decode cL_law 465 = .ok (.i2l, 1) := by decide +kernel
theorem dL_law_466 : decode cL_law 466 = .ok (.bipush 32, 2) := by decide +kernel
theorem dL_law_468 : decode cL_law 468 = .ok (.lshl, 1) := by decide +kernel
theorem dL_law_469 : decode cL_law 469 = .ok (.aload_n 0, 1) := by decide +kernel
theorem dL_law_470 : decode cL_law 470 = .ok (.iload_n 3, 1) := by decide +kernel
theorem dL_law_471 : decode cL_law 471 = .ok (.bipush 6, 2) := by decide +kernel
theorem dL_law_473 : decode cL_law 473 = .ok (.iadd, 1) := by decide +kernel
theorem dL_law_474 : decode cL_law 474 = .ok (.iaload, 1) := by decide +kernel
theorem dL_law_475 : decode cL_law 475 = .ok (.i2l, 1) := by decide +kernel
theorem dL_law_476 : decode cL_law 476 = .ok (.ldc2_w 13, 3) := by decide +kernel
theorem dL_law_479 : decode cL_law 479 = .ok (.land, 1) := by decide +kernel
theorem dL_law_480 : decode cL_law 480 = .ok (.lor, 1) := by decide +kernel
theorem dL_law_481 : decode cL_law 481 = .ok (.aload_n 0, 1) := by decide +kernel
theorem dL_law_482 : decode cL_law 482 = .ok (.iload_n 3, 1) := by decide +kernel
theorem dL_law_483 : decode cL_law 483 = .ok (.bipush 7, 2) := by decide +kernel
theorem dL_law_485 : decode cL_law 485 = .ok (.iadd, 1) := by decide +kernel
theorem dL_law_486 : decode cL_law 486 = .ok (.iaload, 1) := by decide +kernel
theorem dL_law_487 : decode cL_law 487 = .ok (.i2l, 1) := by decide +kernel
theorem dL_law_488 : decode cL_law 488 = .ok (.bipush 32, 2) := by decide +kernel
theorem dL_law_490 : decode cL_law 490 = .ok (.lshl, 1) := by decide +kernel
theorem dL_law_491 : decode cL_law 491 = .ok (.aload_n 0, 1) := by decide +kernel
theorem dL_law_492 : decode cL_law 492 = .ok (.iload_n 3, 1) := by decide +kernel
theorem dL_law_493 : decode cL_law 493 = .ok (.bipush 8, 2) := by decide +kernel
theorem dL_law_495 : decode cL_law 495 = .ok (.iadd, 1) := by decide +kernel
theorem dL_law_496 : decode cL_law 496 = .ok (.iaload, 1) := by decide +kernel
theorem dL_law_497 : decode cL_law 497 = .ok (.i2l, 1) := by decide +kernel
theorem dL_law_498 : decode cL_law 498 = .ok (.ldc2_w 13, 3) := by decide +kernel
theorem dL_law_501 : decode cL_law 501 = .ok (.land, 1) := by decide +kernel
theorem dL_law_502 : decode cL_law 502 = .ok (.lor, 1) := by decide +kernel
theorem dL_law_503 : decode cL_law 503 = .ok (.invokevirtual 39, 3) := by decide +kernel
theorem dL_law_506 : decode cL_law 506 = .ok (.if_icmp .eq 561, 3) := by decide +kernel
theorem dL_law_509 : decode cL_law 509 = .ok (.iconst 0, 1) := by decide +kernel
theorem dL_law_510 : decode cL_law 510 = .ok (.ireturn, 1) := by decide +kernel
theorem dL_law_511 : decode cL_law 511 = .ok (.aload_n 1, 1) := by decide +kernel
theorem dL_law_512 : decode cL_law 512 = .ok (.aload_n 0, 1) := by decide +kernel
theorem dL_law_513 : decode cL_law 513 = .ok (.iload_n 3, 1) := by decide +kernel
theorem dL_law_514 : decode cL_law 514 = .ok (.iconst 1, 1) := by decide +kernel
theorem dL_law_515 : decode cL_law 515 = .ok (.iadd, 1) := by decide +kernel
theorem dL_law_516 : decode cL_law 516 = .ok (.iaload, 1) := by decide +kernel
theorem dL_law_517 : decode cL_law 517 = .ok (.aload_n 0, 1) := by decide +kernel
theorem dL_law_518 : decode cL_law 518 = .ok (.iload_n 3, 1) := by decide +kernel
theorem dL_law_519 : decode cL_law 519 = .ok (.iconst 2, 1) := by decide +kernel
theorem dL_law_520 : decode cL_law 520 = .ok (.iadd, 1) := by decide +kernel
theorem dL_law_521 : decode cL_law 521 = .ok (.iaload, 1) := by decide +kernel
theorem dL_law_522 : decode cL_law 522 = .ok (.invokevirtual 40, 3) := by decide +kernel
theorem dL_law_525 : decode cL_law 525 = .ok (.aload_n 2, 1) := by decide +kernel
theorem dL_law_526 : decode cL_law 526 = .ok (.aload_n 0, 1) := by decide +kernel
theorem dL_law_527 : decode cL_law 527 = .ok (.iload_n 3, 1) := by decide +kernel
theorem dL_law_528 : decode cL_law 528 = .ok (.iconst 1, 1) := by decide +kernel
theorem dL_law_529 : decode cL_law 529 = .ok (.iadd, 1) := by decide +kernel
theorem dL_law_530 : decode cL_law 530 = .ok (.iaload, 1) := by decide +kernel
theorem dL_law_531 : decode cL_law 531 = .ok (.aload_n 0, 1) := by decide +kernel
theorem dL_law_532 : decode cL_law 532 = .ok (.iload_n 3, 1) := by decide +kernel
theorem dL_law_533 : decode cL_law 533 = .ok (.iconst 2, 1) := by decide +kernel
theorem dL_law_534 : decode cL_law 534 = .ok (.iadd, 1) := by decide +kernel
theorem dL_law_535 : decode cL_law 535 = .ok (.iaload, 1) := by decide +kernel
theorem dL_law_536 : decode cL_law 536 = .ok (.invokevirtual 44, 3) := by decide +kernel
theorem dL_law_539 : decode cL_law 539 = .ok (.if_icmp .eq 528, 3) := by decide +kernel
theorem dL_law_542 : decode cL_law 542 = .ok (.iconst 0, 1) := by decide +kernel
theorem dL_law_543 : decode cL_law 543 = .ok (.ireturn, 1) := by decide +kernel
theorem dL_law_544 : decode cL_law 544 = .ok (.aload_n 1, 1) := by decide +kernel
theorem dL_law_545 : decode cL_law 545 = .ok (.aload_n 0, 1) := by decide +kernel
theorem dL_law_546 : decode cL_law 546 = .ok (.iload_n 3, 1) := by decide +kernel
theorem dL_law_547 : decode cL_law 547 = .ok (.iconst 1, 1) := by decide +kernel
theorem dL_law_548 : decode cL_law 548 = .ok (.iadd, 1) := by decide +kernel
theorem dL_law_549 : decode cL_law 549 = .ok (.iaload, 1) := by decide +kernel
theorem dL_law_550 : decode cL_law 550 = .ok (.aload_n 0, 1) := by decide +kernel
theorem dL_law_551 : decode cL_law 551 = .ok (.iload_n 3, 1) := by decide +kernel
theorem dL_law_552 : decode cL_law 552 = .ok (.iconst 2, 1) := by decide +kernel
theorem dL_law_553 : decode cL_law 553 = .ok (.iadd, 1) := by decide +kernel
theorem dL_law_554 : decode cL_law 554 = .ok (.iaload, 1) := by decide +kernel
theorem dL_law_555 : decode cL_law 555 = .ok (.aload_n 0, 1) := by decide +kernel
theorem dL_law_556 : decode cL_law 556 = .ok (.iload_n 3, 1) := by decide +kernel
theorem dL_law_557 : decode cL_law 557 = .ok (.iconst 3, 1) := by decide +kernel
theorem dL_law_558 : decode cL_law 558 = .ok (.iadd, 1) := by decide +kernel
theorem dL_law_559 : decode cL_law 559 = .ok (.iaload, 1) := by decide +kernel
theorem dL_law_560 : decode cL_law 560 = .ok (.ifCond .eq 7, 3) := by decide +kernel
theorem dL_law_563 : decode cL_law 563 = .ok (.iconst 1, 1) := by decide +kernel
theorem dL_law_564 : decode cL_law 564 = .ok (.goto 4, 3) := by decide +kernel
theorem dL_law_567 : decode cL_law 567 = .ok (.iconst 0, 1) := by decide +kernel
theorem dL_law_568 : decode cL_law 568 = .ok (.invokevirtual 45, 3) := by decide +kernel
theorem dL_law_571 : decode cL_law 571 = .ok (.aload_n 2, 1) := by decide +kernel
theorem dL_law_572 : decode cL_law 572 = .ok (.aload_n 0, 1) := by decide +kernel
theorem dL_law_573 : decode cL_law 573 = .ok (.iload_n 3, 1) := by decide +kernel
theorem dL_law_574 : decode cL_law 574 = .ok (.iconst 1, 1) := by decide +kernel
theorem dL_law_575 : decode cL_law 575 = .ok (.iadd, 1) := by decide +kernel
theorem dL_law_576 : decode cL_law 576 = .ok (.iaload, 1) := by decide +kernel
theorem dL_law_577 : decode cL_law 577 = .ok (.aload_n 0, 1) := by decide +kernel
theorem dL_law_578 : decode cL_law 578 = .ok (.iload_n 3, 1) := by decide +kernel
theorem dL_law_579 : decode cL_law 579 = .ok (.iconst 2, 1) := by decide +kernel
theorem dL_law_580 : decode cL_law 580 = .ok (.iadd, 1) := by decide +kernel
theorem dL_law_581 : decode cL_law 581 = .ok (.iaload, 1) := by decide +kernel
theorem dL_law_582 : decode cL_law 582 = .ok (.aload_n 0, 1) := by decide +kernel
theorem dL_law_583 : decode cL_law 583 = .ok (.iload_n 3, 1) := by decide +kernel
theorem dL_law_584 : decode cL_law 584 = .ok (.iconst 3, 1) := by decide +kernel
theorem dL_law_585 : decode cL_law 585 = .ok (.iadd, 1) := by decide +kernel
theorem dL_law_586 : decode cL_law 586 = .ok (.iaload, 1) := by decide +kernel
theorem dL_law_587 : decode cL_law 587 = .ok (.ifCond .eq 7, 3) := by decide +kernel
theorem dL_law_590 : decode cL_law 590 = .ok (.iconst 1, 1) := by decide +kernel
theorem dL_law_591 : decode cL_law 591 = .ok (.goto 4, 3) := by decide +kernel
theorem dL_law_594 : decode cL_law 594 = .ok (.iconst 0, 1) := by decide +kernel
theorem dL_law_595 : decode cL_law 595 = .ok (.invokevirtual 49, 3) := by decide +kernel
theorem dL_law_598 : decode cL_law 598 = .ok (.if_icmp .eq 469, 3) := by decide +kernel
theorem dL_law_601 : decode cL_law 601 = .ok (.iconst 0, 1) := by decide +kernel
theorem dL_law_602 : decode cL_law 602 = .ok (.ireturn, 1) := by decide +kernel
theorem dL_law_603 : decode cL_law 603 = .ok (.aload_n 1, 1) := by decide +kernel
theorem dL_law_604 : decode cL_law 604 = .ok (.aload_n 0, 1) := by decide +kernel
theorem dL_law_605 : decode cL_law 605 = .ok (.iload_n 3, 1) := by decide +kernel
theorem dL_law_606 : decode cL_law 606 = .ok (.iconst 1, 1) := by decide +kernel
theorem dL_law_607 : decode cL_law 607 = .ok (.iadd, 1) := by decide +kernel
theorem dL_law_608 : decode cL_law 608 = .ok (.iaload, 1) := by decide +kernel
theorem dL_law_609 : decode cL_law 609 = .ok (.aload_n 0, 1) := by decide +kernel
theorem dL_law_610 : decode cL_law 610 = .ok (.iload_n 3, 1) := by decide +kernel
theorem dL_law_611 : decode cL_law 611 = .ok (.iconst 2, 1) := by decide +kernel
theorem dL_law_612 : decode cL_law 612 = .ok (.iadd, 1) := by decide +kernel
theorem dL_law_613 : decode cL_law 613 = .ok (.iaload, 1) := by decide +kernel
theorem dL_law_614 : decode cL_law 614 = .ok (.aload_n 0, 1) := by decide +kernel
theorem dL_law_615 : decode cL_law 615 = .ok (.iload_n 3, 1) := by decide +kernel
theorem dL_law_616 : decode cL_law 616 = .ok (.iconst 3, 1) := by decide +kernel
theorem dL_law_617 : decode cL_law 617 = .ok (.iadd, 1) := by decide +kernel
theorem dL_law_618 : decode cL_law 618 = .ok (.iaload, 1) := by decide +kernel
theorem dL_law_619 : decode cL_law 619 = .ok (.i2l, 1) := by decide +kernel
theorem dL_law_620 : decode cL_law 620 = .ok (.bipush 32, 2) := by decide +kernel
theorem dL_law_622 : decode cL_law 622 = .ok (.lshl, 1) := by decide +kernel
theorem dL_law_623 : decode cL_law 623 = .ok (.aload_n 0, 1) := by decide +kernel
theorem dL_law_624 : decode cL_law 624 = .ok (.iload_n 3, 1) := by decide +kernel
theorem dL_law_625 : decode cL_law 625 = .ok (.iconst 4, 1) := by decide +kernel
theorem dL_law_626 : decode cL_law 626 = .ok (.iadd, 1) := by decide +kernel
theorem dL_law_627 : decode cL_law 627 = .ok (.iaload, 1) := by decide +kernel
theorem dL_law_628 : decode cL_law 628 = .ok (.i2l, 1) := by decide +kernel
theorem dL_law_629 : decode cL_law 629 = .ok (.ldc2_w 13, 3) := by decide +kernel
theorem dL_law_632 : decode cL_law 632 = .ok (.land, 1) := by decide +kernel
theorem dL_law_633 : decode cL_law 633 = .ok (.lor, 1) := by decide +kernel
theorem dL_law_634 : decode cL_law 634 = .ok (.invokevirtual 50, 3) := by decide +kernel
theorem dL_law_637 : decode cL_law 637 = .ok (.aload_n 2, 1) := by decide +kernel
theorem dL_law_638 : decode cL_law 638 = .ok (.aload_n 0, 1) := by decide +kernel
theorem dL_law_639 : decode cL_law 639 = .ok (.iload_n 3, 1) := by decide +kernel
theorem dL_law_640 : decode cL_law 640 = .ok (.iconst 1, 1) := by decide +kernel
theorem dL_law_641 : decode cL_law 641 = .ok (.iadd, 1) := by decide +kernel
theorem dL_law_642 : decode cL_law 642 = .ok (.iaload, 1) := by decide +kernel
theorem dL_law_643 : decode cL_law 643 = .ok (.aload_n 0, 1) := by decide +kernel
theorem dL_law_644 : decode cL_law 644 = .ok (.iload_n 3, 1) := by decide +kernel
theorem dL_law_645 : decode cL_law 645 = .ok (.iconst 2, 1) := by decide +kernel
theorem dL_law_646 : decode cL_law 646 = .ok (.iadd, 1) := by decide +kernel
theorem dL_law_647 : decode cL_law 647 = .ok (.iaload, 1) := by decide +kernel
theorem dL_law_648 : decode cL_law 648 = .ok (.aload_n 0, 1) := by decide +kernel
theorem dL_law_649 : decode cL_law 649 = .ok (.iload_n 3, 1) := by decide +kernel
theorem dL_law_650 : decode cL_law 650 = .ok (.iconst 3, 1) := by decide +kernel
theorem dL_law_651 : decode cL_law 651 = .ok (.iadd, 1) := by decide +kernel
theorem dL_law_652 : decode cL_law 652 = .ok (.iaload, 1) := by decide +kernel
theorem dL_law_653 : decode cL_law 653 = .ok (.i2l, 1) := by decide +kernel
theorem dL_law_654 : decode cL_law 654 = .ok (.bipush 32, 2) := by decide +kernel
theorem dL_law_656 : decode cL_law 656 = .ok (.lshl, 1) := by decide +kernel
theorem dL_law_657 : decode cL_law 657 = .ok (.aload_n 0, 1) := by decide +kernel
theorem dL_law_658 : decode cL_law 658 = .ok (.iload_n 3, 1) := by decide +kernel
theorem dL_law_659 : decode cL_law 659 = .ok (.iconst 4, 1) := by decide +kernel
theorem dL_law_660 : decode cL_law 660 = .ok (.iadd, 1) := by decide +kernel
theorem dL_law_661 : decode cL_law 661 = .ok (.iaload, 1) := by decide +kernel
theorem dL_law_662 : decode cL_law 662 = .ok (.i2l, 1) := by decide +kernel
theorem dL_law_663 : decode cL_law 663 = .ok (.ldc2_w 13, 3) := by decide +kernel
theorem dL_law_666 : decode cL_law 666 = .ok (.land, 1) := by decide +kernel
theorem dL_law_667 : decode cL_law 667 = .ok (.lor, 1) := by decide +kernel
theorem dL_law_668 : decode cL_law 668 = .ok (.invokevirtual 54, 3) := by decide +kernel
theorem dL_law_671 : decode cL_law 671 = .ok (.if_icmp .eq 396, 3) := by decide +kernel
theorem dL_law_674 : decode cL_law 674 = .ok (.iconst 0, 1) := by decide +kernel
theorem dL_law_675 : decode cL_law 675 = .ok (.ireturn, 1) := by decide +kernel
theorem dL_law_676 : decode cL_law 676 = .ok (.aload_n 1, 1) := by decide +kernel
theorem dL_law_677 : decode cL_law 677 = .ok (.aload_n 0, 1) := by decide +kernel
theorem dL_law_678 : decode cL_law 678 = .ok (.iload_n 3, 1) := by decide +kernel
theorem dL_law_679 : decode cL_law 679 = .ok (.iconst 1, 1) := by decide +kernel
theorem dL_law_680 : decode cL_law 680 = .ok (.iadd, 1) := by decide +kernel
theorem dL_law_681 : decode cL_law 681 = .ok (.iaload, 1) := by decide +kernel
theorem dL_law_682 : decode cL_law 682 = .ok (.aload_n 0, 1) := by decide +kernel
theorem dL_law_683 : decode cL_law 683 = .ok (.iload_n 3, 1) := by decide +kernel
theorem dL_law_684 : decode cL_law 684 = .ok (.iconst 2, 1) := by decide +kernel
theorem dL_law_685 : decode cL_law 685 = .ok (.iadd, 1) := by decide +kernel
theorem dL_law_686 : decode cL_law 686 = .ok (.iaload, 1) := by decide +kernel
theorem dL_law_687 : decode cL_law 687 = .ok (.invokevirtual 55, 3) := by decide +kernel
theorem dL_law_690 : decode cL_law 690 = .ok (.aload_n 2, 1) := by decide +kernel
theorem dL_law_691 : decode cL_law 691 = .ok (.aload_n 0, 1) := by decide +kernel
theorem dL_law_692 : decode cL_law 692 = .ok (.iload_n 3, 1) := by decide +kernel
theorem dL_law_693 : decode cL_law 693 = .ok (.iconst 1, 1) := by decide +kernel
theorem dL_law_694 : decode cL_law 694 = .ok (.iadd, 1) := by decide +kernel
theorem dL_law_695 : decode cL_law 695 = .ok (.iaload, 1) := by decide +kernel
theorem dL_law_696 : decode cL_law 696 = .ok (.aload_n 0, 1) := by decide +kernel
theorem dL_law_697 : decode cL_law 697 = .ok (.iload_n 3, 1) := by decide +kernel
theorem dL_law_698 : decode cL_law 698 = .ok (.iconst 2, 1) := by decide +kernel
theorem dL_law_699 : decode cL_law 699 = .ok (.iadd, 1) := by decide +kernel
theorem dL_law_700 : decode cL_law 700 = .ok (.iaload, 1) := by decide +kernel
theorem dL_law_701 : decode cL_law 701 = .ok (.invokevirtual 58, 3) := by decide +kernel
theorem dL_law_704 : decode cL_law 704 = .ok (.if_icmp .eq 363, 3) := by decide +kernel
theorem dL_law_707 : decode cL_law 707 = .ok (.iconst 0, 1) := by decide +kernel
theorem dL_law_708 : decode cL_law 708 = .ok (.ireturn, 1) := by decide +kernel
theorem dL_law_709 : decode cL_law 709 = .ok (.aload_n 1, 1) := by decide +kernel
theorem dL_law_710 : decode cL_law 710 = .ok (.aload_n 0, 1) := by decide +kernel
theorem dL_law_711 : decode cL_law 711 = .ok (.iload_n 3, 1) := by decide +kernel
theorem dL_law_712 : decode cL_law 712 = .ok (.iconst 1, 1) := by decide +kernel
theorem dL_law_713 : decode cL_law 713 = .ok (.iadd, 1) := by decide +kernel
theorem dL_law_714 : decode cL_law 714 = .ok (.iaload, 1) := by decide +kernel
theorem dL_law_715 : decode cL_law 715 = .ok (.aload_n 0, 1) := by decide +kernel
theorem dL_law_716 : decode cL_law 716 = .ok (.iload_n 3, 1) := by decide +kernel
theorem dL_law_717 : decode cL_law 717 = .ok (.iconst 2, 1) := by decide +kernel
theorem dL_law_718 : decode cL_law 718 = .ok (.iadd, 1) := by decide +kernel
theorem dL_law_719 : decode cL_law 719 = .ok (.iaload, 1) := by decide +kernel
theorem dL_law_720 : decode cL_law 720 = .ok (.invokevirtual 59, 3) := by decide +kernel
theorem dL_law_723 : decode cL_law 723 = .ok (.aload_n 2, 1) := by decide +kernel
theorem dL_law_724 : decode cL_law 724 = .ok (.aload_n 0, 1) := by decide +kernel
theorem dL_law_725 : decode cL_law 725 = .ok (.iload_n 3, 1) := by decide +kernel
theorem dL_law_726 : decode cL_law 726 = .ok (.iconst 1, 1) := by decide +kernel
theorem dL_law_727 : decode cL_law 727 = .ok (.iadd, 1) := by decide +kernel
theorem dL_law_728 : decode cL_law 728 = .ok (.iaload, 1) := by decide +kernel
theorem dL_law_729 : decode cL_law 729 = .ok (.aload_n 0, 1) := by decide +kernel
theorem dL_law_730 : decode cL_law 730 = .ok (.iload_n 3, 1) := by decide +kernel
theorem dL_law_731 : decode cL_law 731 = .ok (.iconst 2, 1) := by decide +kernel
theorem dL_law_732 : decode cL_law 732 = .ok (.iadd, 1) := by decide +kernel
theorem dL_law_733 : decode cL_law 733 = .ok (.iaload, 1) := by decide +kernel
theorem dL_law_734 : decode cL_law 734 = .ok (.invokevirtual 62, 3) := by decide +kernel
theorem dL_law_737 : decode cL_law 737 = .ok (.if_icmp .eq 330, 3) := by decide +kernel
theorem dL_law_740 : decode cL_law 740 = .ok (.iconst 0, 1) := by decide +kernel
theorem dL_law_741 : decode cL_law 741 = .ok (.ireturn, 1) := by decide +kernel
theorem dL_law_742 : decode cL_law 742 = .ok (.aload_n 1, 1) := by decide +kernel
theorem dL_law_743 : decode cL_law 743 = .ok (.aload_n 0, 1) := by decide +kernel
theorem dL_law_744 : decode cL_law 744 = .ok (.iload_n 3, 1) := by decide +kernel
theorem dL_law_745 : decode cL_law 745 = .ok (.iconst 1, 1) := by decide +kernel
theorem dL_law_746 : decode cL_law 746 = .ok (.iadd, 1) := by decide +kernel
theorem dL_law_747 : decode cL_law 747 = .ok (.iaload, 1) := by decide +kernel
theorem dL_law_748 : decode cL_law 748 = .ok (.ifCond .eq 7, 3) := by decide +kernel
theorem dL_law_751 : decode cL_law 751 = .ok (.iconst 1, 1) := by decide +kernel
theorem dL_law_752 : decode cL_law 752 = .ok (.goto 4, 3) := by decide +kernel
theorem dL_law_755 : decode cL_law 755 = .ok (.iconst 0, 1) := by decide +kernel
theorem dL_law_756 : decode cL_law 756 = .ok (.invokevirtual 63, 3) := by decide +kernel
theorem dL_law_759 : decode cL_law 759 = .ok (.aload_n 2, 1) := by decide +kernel
theorem dL_law_760 : decode cL_law 760 = .ok (.aload_n 0, 1) := by decide +kernel
theorem dL_law_761 : decode cL_law 761 = .ok (.iload_n 3, 1) := by decide +kernel
theorem dL_law_762 : decode cL_law 762 = .ok (.iconst 1, 1) := by decide +kernel
theorem dL_law_763 : decode cL_law 763 = .ok (.iadd, 1) := by decide +kernel
theorem dL_law_764 : decode cL_law 764 = .ok (.iaload, 1) := by decide +kernel
theorem dL_law_765 : decode cL_law 765 = .ok (.ifCond .eq 7, 3) := by decide +kernel
theorem dL_law_768 : decode cL_law 768 = .ok (.iconst 1, 1) := by decide +kernel
theorem dL_law_769 : decode cL_law 769 = .ok (.goto 4, 3) := by decide +kernel
theorem dL_law_772 : decode cL_law 772 = .ok (.iconst 0, 1) := by decide +kernel
theorem dL_law_773 : decode cL_law 773 = .ok (.invokevirtual 67, 3) := by decide +kernel
theorem dL_law_776 : decode cL_law 776 = .ok (.if_icmp .eq 291, 3) := by decide +kernel
theorem dL_law_779 : decode cL_law 779 = .ok (.iconst 0, 1) := by decide +kernel
theorem dL_law_780 : decode cL_law 780 = .ok (.ireturn, 1) := by decide +kernel
theorem dL_law_781 : decode cL_law 781 = .ok (.aload_n 1, 1) := by decide +kernel
theorem dL_law_782 : decode cL_law 782 = .ok (.aload_n 0, 1) := by decide +kernel
theorem dL_law_783 : decode cL_law 783 = .ok (.iload_n 3, 1) := by decide +kernel
theorem dL_law_784 : decode cL_law 784 = .ok (.iconst 1, 1) := by decide +kernel
theorem dL_law_785 : decode cL_law 785 = .ok (.iadd, 1) := by decide +kernel
theorem dL_law_786 : decode cL_law 786 = .ok (.iaload, 1) := by decide +kernel
theorem dL_law_787 : decode cL_law 787 = .ok (.aload_n 0, 1) := by decide +kernel
theorem dL_law_788 : decode cL_law 788 = .ok (.iload_n 3, 1) := by decide +kernel
theorem dL_law_789 : decode cL_law 789 = .ok (.iconst 2, 1) := by decide +kernel
theorem dL_law_790 : decode cL_law 790 = .ok (.iadd, 1) := by decide +kernel
theorem dL_law_791 : decode cL_law 791 = .ok (.iaload, 1) := by decide +kernel
theorem dL_law_792 : decode cL_law 792 = .ok (.ifCond .eq 7, 3) := by decide +kernel
theorem dL_law_795 : decode cL_law 795 = .ok (.iconst 1, 1) := by decide +kernel
theorem dL_law_796 : decode cL_law 796 = .ok (.goto 4, 3) := by decide +kernel
theorem dL_law_799 : decode cL_law 799 = .ok (.iconst 0, 1) := by decide +kernel
theorem dL_law_800 : decode cL_law 800 = .ok (.invokevirtual 68, 3) := by decide +kernel
theorem dL_law_803 : decode cL_law 803 = .ok (.aload_n 2, 1) := by decide +kernel
theorem dL_law_804 : decode cL_law 804 = .ok (.aload_n 0, 1) := by decide +kernel
theorem dL_law_805 : decode cL_law 805 = .ok (.iload_n 3, 1) := by decide +kernel
theorem dL_law_806 : decode cL_law 806 = .ok (.iconst 1, 1) := by decide +kernel
theorem dL_law_807 : decode cL_law 807 = .ok (.iadd, 1) := by decide +kernel
theorem dL_law_808 : decode cL_law 808 = .ok (.iaload, 1) := by decide +kernel
theorem dL_law_809 : decode cL_law 809 = .ok (.aload_n 0, 1) := by decide +kernel
theorem dL_law_810 : decode cL_law 810 = .ok (.iload_n 3, 1) := by decide +kernel
theorem dL_law_811 : decode cL_law 811 = .ok (.iconst 2, 1) := by decide +kernel
theorem dL_law_812 : decode cL_law 812 = .ok (.iadd, 1) := by decide +kernel
theorem dL_law_813 : decode cL_law 813 = .ok (.iaload, 1) := by decide +kernel
theorem dL_law_814 : decode cL_law 814 = .ok (.ifCond .eq 7, 3) := by decide +kernel
theorem dL_law_817 : decode cL_law 817 = .ok (.iconst 1, 1) := by decide +kernel
theorem dL_law_818 : decode cL_law 818 = .ok (.goto 4, 3) := by decide +kernel
theorem dL_law_821 : decode cL_law 821 = .ok (.iconst 0, 1) := by decide +kernel
theorem dL_law_822 : decode cL_law 822 = .ok (.invokevirtual 72, 3) := by decide +kernel
theorem dL_law_825 : decode cL_law 825 = .ok (.if_icmp .eq 242, 3) := by decide +kernel
theorem dL_law_828 : decode cL_law 828 = .ok (.iconst 0, 1) := by decide +kernel
theorem dL_law_829 : decode cL_law 829 = .ok (.ireturn, 1) := by decide +kernel
theorem dL_law_830 : decode cL_law 830 = .ok (.aload_n 1, 1) := by decide +kernel
theorem dL_law_831 : decode cL_law 831 = .ok (.aload_n 0, 1) := by decide +kernel
theorem dL_law_832 : decode cL_law 832 = .ok (.iload_n 3, 1) := by decide +kernel
theorem dL_law_833 : decode cL_law 833 = .ok (.iconst 1, 1) := by decide +kernel
theorem dL_law_834 : decode cL_law 834 = .ok (.iadd, 1) := by decide +kernel
theorem dL_law_835 : decode cL_law 835 = .ok (.iaload, 1) := by decide +kernel
theorem dL_law_836 : decode cL_law 836 = .ok (.invokevirtual 73, 3) := by decide +kernel
theorem dL_law_839 : decode cL_law 839 = .ok (.aload_n 2, 1) := by decide +kernel
theorem dL_law_840 : decode cL_law 840 = .ok (.aload_n 0, 1) := by decide +kernel
theorem dL_law_841 : decode cL_law 841 = .ok (.iload_n 3, 1) := by decide +kernel
theorem dL_law_842 : decode cL_law 842 = .ok (.iconst 1, 1) := by decide +kernel
theorem dL_law_843 : decode cL_law 843 = .ok (.iadd, 1) := by decide +kernel
theorem dL_law_844 : decode cL_law 844 = .ok (.iaload, 1) := by decide +kernel
theorem dL_law_845 : decode cL_law 845 = .ok (.invokevirtual 77, 3) := by decide +kernel
theorem dL_law_848 : decode cL_law 848 = .ok (.if_icmp .eq 219, 3) := by decide +kernel
theorem dL_law_851 : decode cL_law 851 = .ok (.iconst 0, 1) := by decide +kernel
theorem dL_law_852 : decode cL_law 852 = .ok (.ireturn, 1) := by decide +kernel
theorem dL_law_853 : decode cL_law 853 = .ok (.aload_n 1, 1) := by decide +kernel
theorem dL_law_854 : decode cL_law 854 = .ok (.aload_n 0, 1) := by decide +kernel
theorem dL_law_855 : decode cL_law 855 = .ok (.iload_n 3, 1) := by decide +kernel
theorem dL_law_856 : decode cL_law 856 = .ok (.iconst 1, 1) := by decide +kernel
theorem dL_law_857 : decode cL_law 857 = .ok (.iadd, 1) := by decide +kernel
theorem dL_law_858 : decode cL_law 858 = .ok (.iaload, 1) := by decide +kernel
theorem dL_law_859 : decode cL_law 859 = .ok (.i2l, 1) := by decide +kernel
theorem dL_law_860 : decode cL_law 860 = .ok (.bipush 32, 2) := by decide +kernel
theorem dL_law_862 : decode cL_law 862 = .ok (.lshl, 1) := by decide +kernel
theorem dL_law_863 : decode cL_law 863 = .ok (.aload_n 0, 1) := by decide +kernel
theorem dL_law_864 : decode cL_law 864 = .ok (.iload_n 3, 1) := by decide +kernel
theorem dL_law_865 : decode cL_law 865 = .ok (.iconst 2, 1) := by decide +kernel
theorem dL_law_866 : decode cL_law 866 = .ok (.iadd, 1) := by decide +kernel
theorem dL_law_867 : decode cL_law 867 = .ok (.iaload, 1) := by decide +kernel
theorem dL_law_868 : decode cL_law 868 = .ok (.i2l, 1) := by decide +kernel
theorem dL_law_869 : decode cL_law 869 = .ok (.ldc2_w 13, 3) := by decide +kernel
theorem dL_law_872 : decode cL_law 872 = .ok (.land, 1) := by decide +kernel
theorem dL_law_873 : decode cL_law 873 = .ok (.lor, 1) := by decide +kernel
theorem dL_law_874 : decode cL_law 874 = .ok (.invokevirtual 78, 3) := by decide +kernel
theorem dL_law_877 : decode cL_law 877 = .ok (.aload_n 2, 1) := by decide +kernel
theorem dL_law_878 : decode cL_law 878 = .ok (.aload_n 0, 1) := by decide +kernel
theorem dL_law_879 : decode cL_law 879 = .ok (.iload_n 3, 1) := by decide +kernel
theorem dL_law_880 : decode cL_law 880 = .ok (.iconst 1, 1) := by decide +kernel
theorem dL_law_881 : decode cL_law 881 = .ok (.iadd, 1) := by decide +kernel
theorem dL_law_882 : decode cL_law 882 = .ok (.iaload, 1) := by decide +kernel
theorem dL_law_883 : decode cL_law 883 = .ok (.i2l, 1) := by decide +kernel
theorem dL_law_884 : decode cL_law 884 = .ok (.bipush 32, 2) := by decide +kernel
theorem dL_law_886 : decode cL_law 886 = .ok (.lshl, 1) := by decide +kernel
theorem dL_law_887 : decode cL_law 887 = .ok (.aload_n 0, 1) := by decide +kernel
theorem dL_law_888 : decode cL_law 888 = .ok (.iload_n 3, 1) := by decide +kernel
theorem dL_law_889 : decode cL_law 889 = .ok (.iconst 2, 1) := by decide +kernel
theorem dL_law_890 : decode cL_law 890 = .ok (.iadd, 1) := by decide +kernel
theorem dL_law_891 : decode cL_law 891 = .ok (.iaload, 1) := by decide +kernel
theorem dL_law_892 : decode cL_law 892 = .ok (.i2l, 1) := by decide +kernel
theorem dL_law_893 : decode cL_law 893 = .ok (.ldc2_w 13, 3) := by decide +kernel
theorem dL_law_896 : decode cL_law 896 = .ok (.land, 1) := by decide +kernel
theorem dL_law_897 : decode cL_law 897 = .ok (.lor, 1) := by decide +kernel
theorem dL_law_898 : decode cL_law 898 = .ok (.invokevirtual 82, 3) := by decide +kernel
theorem dL_law_901 : decode cL_law 901 = .ok (.lcmp, 1) := by decide +kernel
theorem dL_law_902 : decode cL_law 902 = .ok (.ifCond .eq 165, 3) := by decide +kernel
theorem dL_law_905 : decode cL_law 905 = .ok (.iconst 0, 1) := by decide +kernel
theorem dL_law_906 : decode cL_law 906 = .ok (.ireturn, 1) := by decide +kernel
theorem dL_law_907 : decode cL_law 907 = .ok (.aload_n 1, 1) := by decide +kernel
theorem dL_law_908 : decode cL_law 908 = .ok (.invokevirtual 83, 3) := by decide +kernel
theorem dL_law_911 : decode cL_law 911 = .ok (.aload_n 2, 1) := by decide +kernel
theorem dL_law_912 : decode cL_law 912 = .ok (.invokevirtual 86, 3) := by decide +kernel
theorem dL_law_915 : decode cL_law 915 = .ok (.if_icmp .eq 152, 3) := by decide +kernel
theorem dL_law_918 : decode cL_law 918 = .ok (.iconst 0, 1) := by decide +kernel
theorem dL_law_919 : decode cL_law 919 = .ok (.ireturn, 1) := by decide +kernel
theorem dL_law_920 : decode cL_law 920 = .ok (.aload_n 1, 1) := by decide +kernel
theorem dL_law_921 : decode cL_law 921 = .ok (.aload_n 0, 1) := by decide +kernel
theorem dL_law_922 : decode cL_law 922 = .ok (.iload_n 3, 1) := by decide +kernel
theorem dL_law_923 : decode cL_law 923 = .ok (.iconst 1, 1) := by decide +kernel
theorem dL_law_924 : decode cL_law 924 = .ok (.iadd, 1) := by decide +kernel
theorem dL_law_925 : decode cL_law 925 = .ok (.iaload, 1) := by decide +kernel
theorem dL_law_926 : decode cL_law 926 = .ok (.invokevirtual 87, 3) := by decide +kernel
theorem dL_law_929 : decode cL_law 929 = .ok (.aload_n 2, 1) := by decide +kernel
theorem dL_law_930 : decode cL_law 930 = .ok (.aload_n 0, 1) := by decide +kernel
theorem dL_law_931 : decode cL_law 931 = .ok (.iload_n 3, 1) := by decide +kernel
theorem dL_law_932 : decode cL_law 932 = .ok (.iconst 1, 1) := by decide +kernel
theorem dL_law_933 : decode cL_law 933 = .ok (.iadd, 1) := by decide +kernel
theorem dL_law_934 : decode cL_law 934 = .ok (.iaload, 1) := by decide +kernel
theorem dL_law_935 : decode cL_law 935 = .ok (.invokevirtual 90, 3) := by decide +kernel
theorem dL_law_938 : decode cL_law 938 = .ok (.if_icmp .eq 129, 3) := by decide +kernel
theorem dL_law_941 : decode cL_law 941 = .ok (.iconst 0, 1) := by decide +kernel
theorem dL_law_942 : decode cL_law 942 = .ok (.ireturn, 1) := by decide +kernel
theorem dL_law_943 : decode cL_law 943 = .ok (.aload_n 1, 1) := by decide +kernel
theorem dL_law_944 : decode cL_law 944 = .ok (.aload_n 0, 1) := by decide +kernel
theorem dL_law_945 : decode cL_law 945 = .ok (.iload_n 3, 1) := by decide +kernel
theorem dL_law_946 : decode cL_law 946 = .ok (.iconst 1, 1) := by decide +kernel
theorem dL_law_947 : decode cL_law 947 = .ok (.iadd, 1) := by decide +kernel
theorem dL_law_948 : decode cL_law 948 = .ok (.iaload, 1) := by decide +kernel
theorem dL_law_949 : decode cL_law 949 = .ok (.invokevirtual 91, 3) := by decide +kernel
theorem dL_law_952 : decode cL_law 952 = .ok (.aload_n 2, 1) := by decide +kernel
theorem dL_law_953 : decode cL_law 953 = .ok (.aload_n 0, 1) := by decide +kernel
theorem dL_law_954 : decode cL_law 954 = .ok (.iload_n 3, 1) := by decide +kernel
theorem dL_law_955 : decode cL_law 955 = .ok (.iconst 1, 1) := by decide +kernel
theorem dL_law_956 : decode cL_law 956 = .ok (.iadd, 1) := by decide +kernel
theorem dL_law_957 : decode cL_law 957 = .ok (.iaload, 1) := by decide +kernel
theorem dL_law_958 : decode cL_law 958 = .ok (.invokevirtual 94, 3) := by decide +kernel
theorem dL_law_961 : decode cL_law 961 = .ok (.if_icmp .eq 106, 3) := by decide +kernel
theorem dL_law_964 : decode cL_law 964 = .ok (.iconst 0, 1) := by decide +kernel
theorem dL_law_965 : decode cL_law 965 = .ok (.ireturn, 1) := by decide +kernel
theorem dL_law_966 : decode cL_law 966 = .ok (.aload_n 1, 1) := by decide +kernel
theorem dL_law_967 : decode cL_law 967 = .ok (.aload_n 0, 1) := by decide +kernel
theorem dL_law_968 : decode cL_law 968 = .ok (.iload_n 3, 1) := by decide +kernel
theorem dL_law_969 : decode cL_law 969 = .ok (.iconst 1, 1) := by decide +kernel
theorem dL_law_970 : decode cL_law 970 = .ok (.iadd, 1) := by decide +kernel
theorem dL_law_971 : decode cL_law 971 = .ok (.iaload, 1) := by decide +kernel
theorem dL_law_972 : decode cL_law 972 = .ok (.invokevirtual 95, 3) := by decide +kernel
theorem dL_law_975 : decode cL_law 975 = .ok (.aload_n 2, 1) := by decide +kernel
theorem dL_law_976 : decode cL_law 976 = .ok (.aload_n 0, 1) := by decide +kernel
theorem dL_law_977 : decode cL_law 977 = .ok (.iload_n 3, 1) := by decide +kernel
theorem dL_law_978 : decode cL_law 978 = .ok (.iconst 1, 1) := by decide +kernel
theorem dL_law_979 : decode cL_law 979 = .ok (.iadd, 1) := by decide +kernel
theorem dL_law_980 : decode cL_law 980 = .ok (.iaload, 1) := by decide +kernel
theorem dL_law_981 : decode cL_law 981 = .ok (.invokevirtual 98, 3) := by decide +kernel
theorem dL_law_984 : decode cL_law 984 = .ok (.if_icmp .eq 83, 3) := by decide +kernel
theorem dL_law_987 : decode cL_law 987 = .ok (.iconst 0, 1) := by decide +kernel
theorem dL_law_988 : decode cL_law 988 = .ok (.ireturn, 1) := by decide +kernel
theorem dL_law_989 : decode cL_law 989 = .ok (.aload_n 1, 1) := by decide +kernel
theorem dL_law_990 : decode cL_law 990 = .ok (.aload_n 0, 1) := by decide +kernel
theorem dL_law_991 : decode cL_law 991 = .ok (.iload_n 3, 1) := by decide +kernel
theorem dL_law_992 : decode cL_law 992 = .ok (.iconst 1, 1) := by decide +kernel
theorem dL_law_993 : decode cL_law 993 = .ok (.iadd, 1) := by decide +kernel
theorem dL_law_994 : decode cL_law 994 = .ok (.iaload, 1) := by decide +kernel
theorem dL_law_995 : decode cL_law 995 = .ok (.aload_n 0, 1) := by decide +kernel
theorem dL_law_996 : decode cL_law 996 = .ok (.iload_n 3, 1) := by decide +kernel
theorem dL_law_997 : decode cL_law 997 = .ok (.iconst 2, 1) := by decide +kernel
theorem dL_law_998 : decode cL_law 998 = .ok (.iadd, 1) := by decide +kernel
theorem dL_law_999 : decode cL_law 999 = .ok (.iaload, 1) := by decide +kernel
theorem dL_law_1000 : decode cL_law 1000 = .ok (.invokevirtual 99, 3) := by decide +kernel
theorem dL_law_1003 : decode cL_law 1003 = .ok (.aload_n 2, 1) := by decide +kernel
theorem dL_law_1004 : decode cL_law 1004 = .ok (.aload_n 0, 1) := by decide +kernel
theorem dL_law_1005 : decode cL_law 1005 = .ok (.iload_n 3, 1) := by decide +kernel
theorem dL_law_1006 : decode cL_law 1006 = .ok (.iconst 1, 1) := by decide +kernel
theorem dL_law_1007 : decode cL_law 1007 = .ok (.iadd, 1) := by decide +kernel
theorem dL_law_1008 : decode cL_law 1008 = .ok (.iaload, 1) := by decide +kernel
theorem dL_law_1009 : decode cL_law 1009 = .ok (.aload_n 0, 1) := by decide +kernel
theorem dL_law_1010 : decode cL_law 1010 = .ok (.iload_n 3, 1) := by decide +kernel
theorem dL_law_1011 : decode cL_law 1011 = .ok (.iconst 2, 1) := by decide +kernel
theorem dL_law_1012 : decode cL_law 1012 = .ok (.iadd, 1) := by decide +kernel
theorem dL_law_1013 : decode cL_law 1013 = .ok (.iaload, 1) := by decide +kernel
theorem dL_law_1014 : decode cL_law 1014 = .ok (.invokevirtual 103, 3) := by decide +kernel
theorem dL_law_1017 : decode cL_law 1017 = .ok (.lcmp, 1) := by decide +kernel
theorem dL_law_1018 : decode cL_law 1018 = .ok (.ifCond .eq 49, 3) := by decide +kernel
theorem dL_law_1021 : decode cL_law 1021 = .ok (.iconst 0, 1) := by decide +kernel
theorem dL_law_1022 : decode cL_law 1022 = .ok (.ireturn, 1) := by decide +kernel
theorem dL_law_1023 : decode cL_law 1023 = .ok (.aload_n 1, 1) := by decide +kernel
theorem dL_law_1024 : decode cL_law 1024 = .ok (.aload_n 0, 1) := by decide +kernel
theorem dL_law_1025 : decode cL_law 1025 = .ok (.iload_n 3, 1) := by decide +kernel
theorem dL_law_1026 : decode cL_law 1026 = .ok (.iconst 1, 1) := by decide +kernel
theorem dL_law_1027 : decode cL_law 1027 = .ok (.iadd, 1) := by decide +kernel
theorem dL_law_1028 : decode cL_law 1028 = .ok (.iaload, 1) := by decide +kernel
theorem dL_law_1029 : decode cL_law 1029 = .ok (.aload_n 0, 1) := by decide +kernel
theorem dL_law_1030 : decode cL_law 1030 = .ok (.iload_n 3, 1) := by decide +kernel
theorem dL_law_1031 : decode cL_law 1031 = .ok (.iconst 2, 1) := by decide +kernel
theorem dL_law_1032 : decode cL_law 1032 = .ok (.iadd, 1) := by decide +kernel
theorem dL_law_1033 : decode cL_law 1033 = .ok (.iaload, 1) := by decide +kernel
theorem dL_law_1034 : decode cL_law 1034 = .ok (.aload_n 0, 1) := by decide +kernel
theorem dL_law_1035 : decode cL_law 1035 = .ok (.iload_n 3, 1) := by decide +kernel
theorem dL_law_1036 : decode cL_law 1036 = .ok (.iconst 3, 1) := by decide +kernel
