theorem dX0_init_0 : decode cX0_init 0 = .ok (.aload_n 0, 1) := by decide +kernel
theorem dX0_init_1 : decode cX0_init 1 = .ok (.invokespecial 1, 3) := by decide +kernel
theorem dX0_init_4 : decode cX0_init 4 = .ok (.aload_n 0, 1) := by decide +kernel
theorem dX0_init_5 : decode cX0_init 5 = .ok (.iload_n 1, 1) := by decide +kernel
theorem dX0_init_6 : decode cX0_init 6 = .ok (.iconst 0, 1) := by decide +kernel
theorem dX0_init_7 : decode cX0_init 7 = .ok (.invokestatic 7, 3) := by decide +kernel
theorem dX0_init_10 : decode cX0_init 10 = .ok (.newarray .long, 2) := by decide +kernel
theorem dX0_init_12 : decode cX0_init 12 = .ok (.putfield 13, 3) := by decide +kernel
theorem dX0_init_15 : decode cX0_init 15 = .ok (.return_, 1) := by decide +kernel
theorem dX0_size_0 : decode cX0_size 0 = .ok (.aload_n 0, 1) := by decide +kernel
theorem dX0_size_1 : decode cX0_size 1 = .ok (.getfield 19, 3) := by decide +kernel
theorem dX0_size_4 : decode cX0_size 4 = .ok (.ireturn, 1) := by decide +kernel
theorem dX0_at_0 : decode cX0_at 0 = .ok (.iload_n 1, 1) := by decide +kernel
theorem dX0_at_1 : decode cX0_at 1 = .ok (.ifCond .lt 29, 3) := by decide +kernel
theorem dX0_at_4 : decode cX0_at 4 = .ok (.iload_n 1, 1) := by decide +kernel
theorem dX0_at_5 : decode cX0_at 5 = .ok (.aload_n 0, 1) := by decide +kernel
theorem dX0_at_6 : decode cX0_at 6 = .ok (.getfield 19, 3) := by decide +kernel
theorem dX0_at_9 : decode cX0_at 9 = .ok (.if_icmp .ge 21, 3) := by decide +kernel
theorem dX0_at_12 : decode cX0_at 12 = .ok (.iload_n 1, 1) := by decide +kernel
theorem dX0_at_13 : decode cX0_at 13 = .ok (.aload_n 0, 1) := by decide +kernel
theorem dX0_at_14 : decode cX0_at 14 = .ok (.getfield 13, 3) := by decide +kernel
theorem dX0_at_17 : decode cX0_at 17 = .ok (.arraylength, 1) := by decide +kernel
theorem dX0_at_18 : decode cX0_at 18 = .ok (.if_icmp .ge 12, 3) := by decide +kernel
theorem dX0_at_21 : decode cX0_at 21 = .ok (.aload_n 0, 1) := by decide +kernel
theorem dX0_at_22 : decode cX0_at 22 = .ok (.getfield 13, 3) := by decide +kernel
theorem dX0_at_25 : decode cX0_at 25 = .ok (.iload_n 1, 1) := by decide +kernel
theorem dX0_at_26 : decode cX0_at 26 = .ok (.laload, 1) := by decide +kernel
theorem dX0_at_27 : decode cX0_at 27 = .ok (.goto 6, 3) := by decide +kernel
theorem dX0_at_30 : decode cX0_at 30 = .ok (.ldc2_w 23, 3) := by decide +kernel
theorem dX0_at_33 : decode cX0_at 33 = .ok (.lreturn, 1) := by decide +kernel
theorem dX0_add_0 : decode cX0_add 0 = .ok (.aload_n 0, 1) := by decide +kernel
theorem dX0_add_1 : decode cX0_add 1 = .ok (.getfield 19, 3) := by decide +kernel
theorem dX0_add_4 : decode cX0_add 4 = .ok (.ifCond .lt 15, 3) := by decide +kernel
theorem dX0_add_7 : decode cX0_add 7 = .ok (.aload_n 0, 1) := by decide +kernel
theorem dX0_add_8 : decode cX0_add 8 = .ok (.getfield 19, 3) := by decide +kernel
theorem dX0_add_11 : decode cX0_add 11 = .ok (.aload_n 0, 1) := by decide +kernel
theorem dX0_add_12 : decode cX0_add 12 = .ok (.getfield 13, 3) := by decide +kernel
theorem dX0_add_15 : decode cX0_add 15 = .ok (.arraylength, 1) := by decide +kernel
theorem dX0_add_16 : decode cX0_add 16 = .ok (.if_icmp .lt 5, 3) := by decide +kernel
theorem dX0_add_19 : decode cX0_add 19 = .ok (.iconst 0, 1) := by decide +kernel
theorem dX0_add_20 : decode cX0_add 20 = .ok (.ireturn, 1) := by decide +kernel
theorem dX0_add_21 : decode cX0_add 21 = .ok (.aload_n 0, 1) := by decide +kernel
theorem dX0_add_22 : decode cX0_add 22 = .ok (.getfield 13, 3) := by decide +kernel
theorem dX0_add_25 : decode cX0_add 25 = .ok (.aload_n 0, 1) := by decide +kernel
theorem dX0_add_26 : decode cX0_add 26 = .ok (.getfield 19, 3) := by decide +kernel
theorem dX0_add_29 : decode cX0_add 29 = .ok (.lload_n 1, 1) := by decide +kernel
theorem dX0_add_30 : decode cX0_add 30 = .ok (.lastore, 1) := by decide +kernel
theorem dX0_add_31 : decode cX0_add 31 = .ok (.aload_n 0, 1) := by decide +kernel
theorem dX0_add_32 : decode cX0_add 32 = .ok (.dup, 1) := by decide +kernel
theorem dX0_add_33 : decode cX0_add 33 = .ok (.getfield 19, 3) := by decide +kernel
theorem dX0_add_36 : decode cX0_add 36 = .ok (.iconst 1, 1) := by decide +kernel
theorem dX0_add_37 : decode cX0_add 37 = .ok (.iadd, 1) := by decide +kernel
theorem dX0_add_38 : decode cX0_add 38 = .ok (.putfield 19, 3) := by decide +kernel
theorem dX0_add_41 : decode cX0_add 41 = .ok (.iconst 1, 1) := by decide +kernel
theorem dX0_add_42 : decode cX0_add 42 = .ok (.ireturn, 1) := by decide +kernel
theorem dX0_clear_0 : decode cX0_clear 0 = .ok (.aload_n 0, 1) := by decide +kernel
theorem dX0_clear_1 : decode cX0_clear 1 = .ok (.iconst 0, 1) := by decide +kernel
theorem dX0_clear_2 : decode cX0_clear 2 = .ok (.putfield 19, 3) := by decide +kernel
theorem dX0_clear_5 : decode cX0_clear 5 = .ok (.return_, 1) := by decide +kernel
theorem dX0_copy_0 : decode cX0_copy 0 = .ok (.aload_n 1, 1) := by decide +kernel
theorem dX0_copy_1 : decode cX0_copy 1 = .ok (.aload_n 0, 1) := by decide +kernel
theorem dX0_copy_2 : decode cX0_copy 2 = .ok (.if_acmp .ne 4, 3) := by decide +kernel
theorem dX0_copy_5 : decode cX0_copy 5 = .ok (.return_, 1) := by decide +kernel
theorem dX0_copy_6 : decode cX0_copy 6 = .ok (.aload_n 0, 1) := by decide +kernel
theorem dX0_copy_7 : decode cX0_copy 7 = .ok (.iconst 0, 1) := by decide +kernel
theorem dX0_copy_8 : decode cX0_copy 8 = .ok (.putfield 19, 3) := by decide +kernel
theorem dX0_copy_11 : decode cX0_copy 11 = .ok (.iconst 0, 1) := by decide +kernel
theorem dX0_copy_12 : decode cX0_copy 12 = .ok (.istore_n 2, 1) := by decide +kernel
theorem dX0_copy_13 : decode cX0_copy 13 = .ok (.iload_n 2, 1) := by decide +kernel
theorem dX0_copy_14 : decode cX0_copy 14 = .ok (.aload_n 1, 1) := by decide +kernel
theorem dX0_copy_15 : decode cX0_copy 15 = .ok (.getfield 19, 3) := by decide +kernel
theorem dX0_copy_18 : decode cX0_copy 18 = .ok (.if_icmp .ge 19, 3) := by decide +kernel
theorem dX0_copy_21 : decode cX0_copy 21 = .ok (.aload_n 0, 1) := by decide +kernel
theorem dX0_copy_22 : decode cX0_copy 22 = .ok (.aload_n 1, 1) := by decide +kernel
theorem dX0_copy_23 : decode cX0_copy 23 = .ok (.iload_n 2, 1) := by decide +kernel
theorem dX0_copy_24 : decode cX0_copy 24 = .ok (.invokevirtual 25, 3) := by decide +kernel
theorem dX0_copy_27 : decode cX0_copy 27 = .ok (.invokevirtual 29, 3) := by decide +kernel
theorem dX0_copy_30 : decode cX0_copy 30 = .ok (.pop, 1) := by decide +kernel
theorem dX0_copy_31 : decode cX0_copy 31 = .ok (.iinc 2 1, 3) := by decide +kernel
theorem dX0_copy_34 : decode cX0_copy 34 = .ok (.goto (-21), 3) := by decide +kernel
theorem dX0_copy_37 : decode cX0_copy 37 = .ok (.return_, 1) := by decide +kernel
theorem dX0_beginsWith_0 : decode cX0_beginsWith 0 = .ok (.aload_n 0, 1) := by decide +kernel
theorem dX0_beginsWith_1 : decode cX0_beginsWith 1 = .ok (.getfield 19, 3) := by decide +kernel
theorem dX0_beginsWith_4 : decode cX0_beginsWith 4 = .ok (.aload_n 1, 1) := by decide +kernel
theorem dX0_beginsWith_5 : decode cX0_beginsWith 5 = .ok (.getfield 19, 3) := by decide +kernel
theorem dX0_beginsWith_8 : decode cX0_beginsWith 8 = .ok (.if_icmp .ge 5, 3) := by decide +kernel
theorem dX0_beginsWith_11 : decode cX0_beginsWith 11 = .ok (.iconst 0, 1) := by decide +kernel
theorem dX0_beginsWith_12 : decode cX0_beginsWith 12 = .ok (.ireturn, 1) := by decide +kernel
theorem dX0_beginsWith_13 : decode cX0_beginsWith 13 = .ok (.iconst 0, 1) := by decide +kernel
theorem dX0_beginsWith_14 : decode cX0_beginsWith 14 = .ok (.istore_n 2, 1) := by decide +kernel
theorem dX0_beginsWith_15 : decode cX0_beginsWith 15 = .ok (.iload_n 2, 1) := by decide +kernel
theorem dX0_beginsWith_16 : decode cX0_beginsWith 16 = .ok (.aload_n 1, 1) := by decide +kernel
theorem dX0_beginsWith_17 : decode cX0_beginsWith 17 = .ok (.getfield 19, 3) := by decide +kernel
theorem dX0_beginsWith_20 : decode cX0_beginsWith 20 = .ok (.if_icmp .ge 25, 3) := by decide +kernel
theorem dX0_beginsWith_23 : decode cX0_beginsWith 23 = .ok (.aload_n 0, 1) := by decide +kernel
theorem dX0_beginsWith_24 : decode cX0_beginsWith 24 = .ok (.iload_n 2, 1) := by decide +kernel
theorem dX0_beginsWith_25 : decode cX0_beginsWith 25 = .ok (.invokevirtual 25, 3) := by decide +kernel
theorem dX0_beginsWith_28 : decode cX0_beginsWith 28 = .ok (.aload_n 1, 1) := by decide +kernel
theorem dX0_beginsWith_29 : decode cX0_beginsWith 29 = .ok (.iload_n 2, 1) := by decide +kernel
theorem dX0_beginsWith_30 : decode cX0_beginsWith 30 = .ok (.invokevirtual 25, 3) := by decide +kernel
theorem dX0_beginsWith_33 : decode cX0_beginsWith 33 = .ok (.lcmp, 1) := by decide +kernel
theorem dX0_beginsWith_34 : decode cX0_beginsWith 34 = .ok (.ifCond .eq 5, 3) := by decide +kernel
theorem dX0_beginsWith_37 : decode cX0_beginsWith 37 = .ok (.iconst 0, 1) := by decide +kernel
theorem dX0_beginsWith_38 : decode cX0_beginsWith 38 = .ok (.ireturn, 1) := by decide +kernel
theorem dX0_beginsWith_39 : decode cX0_beginsWith 39 = .ok (.iinc 2 1, 3) := by decide +kernel
theorem dX0_beginsWith_42 : decode cX0_beginsWith 42 = .ok (.goto (-27), 3) := by decide +kernel
theorem dX0_beginsWith_45 : decode cX0_beginsWith 45 = .ok (.iconst 1, 1) := by decide +kernel
theorem dX0_beginsWith_46 : decode cX0_beginsWith 46 = .ok (.ireturn, 1) := by decide +kernel
theorem dX0_isSame_0 : decode cX0_isSame 0 = .ok (.aload_n 0, 1) := by decide +kernel
theorem dX0_isSame_1 : decode cX0_isSame 1 = .ok (.getfield 19, 3) := by decide +kernel
theorem dX0_isSame_4 : decode cX0_isSame 4 = .ok (.aload_n 1, 1) := by decide +kernel
theorem dX0_isSame_5 : decode cX0_isSame 5 = .ok (.getfield 19, 3) := by decide +kernel
theorem dX0_isSame_8 : decode cX0_isSame 8 = .ok (.if_icmp .ne 15, 3) := by decide +kernel
theorem dX0_isSame_11 : decode cX0_isSame 11 = .ok (.aload_n 0, 1) := by decide +kernel
theorem dX0_isSame_12 : decode cX0_isSame 12 = .ok (.aload_n 1, 1) := by decide +kernel
theorem dX0_isSame_13 : decode cX0_isSame 13 = .ok (.invokevirtual 33, 3) := by decide +kernel
theorem dX0_isSame_16 : decode cX0_isSame 16 = .ok (.ifCond .eq 7, 3) := by decide +kernel
theorem dX0_isSame_19 : decode cX0_isSame 19 = .ok (.iconst 1, 1) := by decide +kernel
theorem dX0_isSame_20 : decode cX0_isSame 20 = .ok (.goto 4, 3) := by decide +kernel
theorem dX0_isSame_23 : decode cX0_isSame 23 = .ok (.iconst 0, 1) := by decide +kernel
theorem dX0_isSame_24 : decode cX0_isSame 24 = .ok (.ireturn, 1) := by decide +kernel
theorem dX0_isLess_0 : decode cX0_isLess 0 = .ok (.aload_n 0, 1) := by decide +kernel
theorem dX0_isLess_1 : decode cX0_isLess 1 = .ok (.getfield 19, 3) := by decide +kernel
theorem dX0_isLess_4 : decode cX0_isLess 4 = .ok (.aload_n 1, 1) := by decide +kernel
theorem dX0_isLess_5 : decode cX0_isLess 5 = .ok (.getfield 19, 3) := by decide +kernel
theorem dX0_isLess_8 : decode cX0_isLess 8 = .ok (.invokestatic 37, 3) := by decide +kernel
theorem dX0_isLess_11 : decode cX0_isLess 11 = .ok (.istore_n 2, 1) := by decide +kernel
theorem dX0_isLess_12 : decode cX0_isLess 12 = .ok (.iconst 0, 1) := by decide +kernel
theorem dX0_isLess_13 : decode cX0_isLess 13 = .ok (.istore_n 3, 1) := by decide +kernel
theorem dX0_isLess_14 : decode cX0_isLess 14 = .ok (.iload_n 3, 1) := by decide +kernel
theorem dX0_isLess_15 : decode cX0_isLess 15 = .ok (.iload_n 2, 1) := by decide +kernel
theorem dX0_isLess_16 : decode cX0_isLess 16 = .ok (.if_icmp .ge 43, 3) := by decide +kernel
theorem dX0_isLess_19 : decode cX0_isLess 19 = .ok (.aload_n 0, 1) := by decide +kernel
theorem dX0_isLess_20 : decode cX0_isLess 20 = .ok (.iload_n 3, 1) := by decide +kernel
theorem dX0_isLess_21 : decode cX0_isLess 21 = .ok (.invokevirtual 25, 3) := by decide +kernel
theorem dX0_isLess_24 : decode cX0_isLess 24 = .ok (.aload_n 1, 1) := by decide +kernel
theorem dX0_isLess_25 : decode cX0_isLess 25 = .ok (.iload_n 3, 1) := by decide +kernel
theorem dX0_isLess_26 : decode cX0_isLess 26 = .ok (.invokevirtual 25, 3) := by decide +kernel
theorem dX0_isLess_29 : decode cX0_isLess 29 = .ok (.lcmp, 1) := by decide +kernel
theorem dX0_isLess_30 : decode cX0_isLess 30 = .ok (.ifCond .eq 23, 3) := by decide +kernel
theorem dX0_isLess_33 : decode cX0_isLess 33 = .ok (.aload_n 0, 1) := by decide +kernel
theorem dX0_isLess_34 : decode cX0_isLess 34 = .ok (.iload_n 3, 1) := by decide +kernel
theorem dX0_isLess_35 : decode cX0_isLess 35 = .ok (.invokevirtual 25, 3) := by decide +kernel
theorem dX0_isLess_38 : decode cX0_isLess 38 = .ok (.aload_n 1, 1) := by decide +kernel
theorem dX0_isLess_39 : decode cX0_isLess 39 = .ok (.iload_n 3, 1) := by decide +kernel
theorem dX0_isLess_40 : decode cX0_isLess 40 = .ok (.invokevirtual 25, 3) := by decide +kernel
theorem dX0_isLess_43 : decode cX0_isLess 43 = .ok (.lcmp, 1) := by decide +kernel
theorem dX0_isLess_44 : decode cX0_isLess 44 = .ok (.ifCond .ge 7, 3) := by decide +kernel
theorem dX0_isLess_47 : decode cX0_isLess 47 = .ok (.iconst 1, 1) := by decide +kernel
theorem dX0_isLess_48 : decode cX0_isLess 48 = .ok (.goto 4, 3) := by decide +kernel
theorem dX0_isLess_51 : decode cX0_isLess 51 = .ok (.iconst 0, 1) := by decide +kernel
theorem dX0_isLess_52 : decode cX0_isLess 52 = .ok (.ireturn, 1) := by decide +kernel
theorem dX0_isLess_53 : decode cX0_isLess 53 = .ok (.iinc 3 1, 3) := by decide +kernel
theorem dX0_isLess_56 : decode cX0_isLess 56 = .ok (.goto (-42), 3) := by decide +kernel
theorem dX0_isLess_59 : decode cX0_isLess 59 = .ok (.aload_n 0, 1) := by decide +kernel
theorem dX0_isLess_60 : decode cX0_isLess 60 = .ok (.getfield 19, 3) := by decide +kernel
theorem dX0_isLess_63 : decode cX0_isLess 63 = .ok (.aload_n 1, 1) := by decide +kernel
theorem dX0_isLess_64 : decode cX0_isLess 64 = .ok (.getfield 19, 3) := by decide +kernel
theorem dX0_isLess_67 : decode cX0_isLess 67 = .ok (.if_icmp .ge 7, 3) := by decide +kernel
theorem dX0_isLess_70 : decode cX0_isLess 70 = .ok (.iconst 1, 1) := by decide +kernel
theorem dX0_isLess_71 : decode cX0_isLess 71 = .ok (.goto 4, 3) := by decide +kernel
theorem dX0_isLess_74 : decode cX0_isLess 74 = .ok (.iconst 0, 1) := by decide +kernel
theorem dX0_isLess_75 : decode cX0_isLess 75 = .ok (.ireturn, 1) := by decide +kernel
theorem dX1_init_0 : decode cX1_init 0 = .ok (.aload_n 0, 1) := by decide +kernel
theorem dX1_init_1 : decode cX1_init 1 = .ok (.invokespecial 3, 3) := by decide +kernel
theorem dX1_init_4 : decode cX1_init 4 = .ok (.aload_n 0, 1) := by decide +kernel
theorem dX1_init_5 : decode cX1_init 5 = .ok (.aload_n 1, 1) := by decide +kernel
theorem dX1_init_6 : decode cX1_init 6 = .ok (.putfield 9, 3) := by decide +kernel
theorem dX1_init_9 : decode cX1_init 9 = .ok (.aload_n 0, 1) := by decide +kernel
theorem dX1_init_10 : decode cX1_init 10 = .ok (.aload_n 2, 1) := by decide +kernel
theorem dX1_init_11 : decode cX1_init 11 = .ok (.putfield 15, 3) := by decide +kernel
theorem dX1_init_14 : decode cX1_init 14 = .ok (.return_, 1) := by decide +kernel
theorem dX1_faultAt_0 : decode cX1_faultAt 0 = .ok (.aload_n 0, 1) := by decide +kernel
theorem dX1_faultAt_1 : decode cX1_faultAt 1 = .ok (.getfield 15, 3) := by decide +kernel
theorem dX1_faultAt_4 : decode cX1_faultAt 4 = .ok (.iload_n 1, 1) := by decide +kernel
theorem dX1_faultAt_5 : decode cX1_faultAt 5 = .ok (.invokevirtual 19, 3) := by decide +kernel
theorem dX1_faultAt_8 : decode cX1_faultAt 8 = .ok (.astore_n 2, 1) := by decide +kernel
theorem dX1_faultAt_9 : decode cX1_faultAt 9 = .ok (.aload_n 2, 1) := by decide +kernel
theorem dX1_faultAt_10 : decode cX1_faultAt 10 = .ok (.ifnull 30, 3) := by decide +kernel
theorem dX1_faultAt_13 : decode cX1_faultAt 13 = .ok (.aload_n 0, 1) := by decide +kernel
theorem dX1_faultAt_14 : decode cX1_faultAt 14 = .ok (.getfield 15, 3) := by decide +kernel
theorem dX1_faultAt_17 : decode cX1_faultAt 17 = .ok (.getfield 25, 3) := by decide +kernel
theorem dX1_faultAt_20 : decode cX1_faultAt 20 = .ok (.ifnull 20, 3) := by decide +kernel
theorem dX1_faultAt_23 : decode cX1_faultAt 23 = .ok (.aload_n 0, 1) := by decide +kernel
theorem dX1_faultAt_24 : decode cX1_faultAt 24 = .ok (.getfield 15, 3) := by decide +kernel
theorem dX1_faultAt_27 : decode cX1_faultAt 27 = .ok (.getfield 25, 3) := by decide +kernel
theorem dX1_faultAt_30 : decode cX1_faultAt 30 = .ok (.aload_n 2, 1) := by decide +kernel
theorem dX1_faultAt_31 : decode cX1_faultAt 31 = .ok (.getfield 29, 3) := by decide +kernel
theorem dX1_faultAt_34 : decode cX1_faultAt 34 = .ok (.invokevirtual 35, 3) := by decide +kernel
theorem dX1_faultAt_37 : decode cX1_faultAt 37 = .ok (.ifCond .ne 6, 3) := by decide +kernel
theorem dX1_faultAt_40 : decode cX1_faultAt 40 = .ok (.bipush 6, 2) := by decide +kernel
theorem dX1_faultAt_42 : decode cX1_faultAt 42 = .ok (.ireturn, 1) := by decide +kernel
theorem dX1_faultAt_43 : decode cX1_faultAt 43 = .ok (.aload_n 0, 1) := by decide +kernel
theorem dX1_faultAt_44 : decode cX1_faultAt 44 = .ok (.getfield 9, 3) := by decide +kernel
theorem dX1_faultAt_47 : decode cX1_faultAt 47 = .ok (.aload_n 2, 1) := by decide +kernel
theorem dX1_faultAt_48 : decode cX1_faultAt 48 = .ok (.getfield 29, 3) := by decide +kernel
theorem dX1_faultAt_51 : decode cX1_faultAt 51 = .ok (.invokevirtual 41, 3) := by decide +kernel
theorem dX1_faultAt_54 : decode cX1_faultAt 54 = .ok (.astore_n 3, 1) := by decide +kernel
theorem dX1_faultAt_55 : decode cX1_faultAt 55 = .ok (.aload_n 3, 1) := by decide +kernel
theorem dX1_faultAt_56 : decode cX1_faultAt 56 = .ok (.ifnull 11, 3) := by decide +kernel
theorem dX1_faultAt_59 : decode cX1_faultAt 59 = .ok (.aload_n 3, 1) := by decide +kernel
theorem dX1_faultAt_60 : decode cX1_faultAt 60 = .ok (.getfield 47, 3) := by decide +kernel
theorem dX1_faultAt_63 : decode cX1_faultAt 63 = .ok (.iconst 2, 1) := by decide +kernel
theorem dX1_faultAt_64 : decode cX1_faultAt 64 = .ok (.if_icmp .eq 6, 3) := by decide +kernel
theorem dX1_faultAt_67 : decode cX1_faultAt 67 = .ok (.bipush 17, 2) := by decide +kernel
theorem dX1_faultAt_69 : decode cX1_faultAt 69 = .ok (.ireturn, 1) := by decide +kernel
theorem dX1_faultAt_70 : decode cX1_faultAt 70 = .ok (.aload_n 2, 1) := by decide +kernel
theorem dX1_faultAt_71 : decode cX1_faultAt 71 = .ok (.getfield 53, 3) := by decide +kernel
theorem dX1_faultAt_74 : decode cX1_faultAt 74 = .ok (.getfield 57, 3) := by decide +kernel
theorem dX1_faultAt_77 : decode cX1_faultAt 77 = .ok (.aload_n 3, 1) := by decide +kernel
theorem dX1_faultAt_78 : decode cX1_faultAt 78 = .ok (.getfield 62, 3) := by decide +kernel
theorem dX1_faultAt_81 : decode cX1_faultAt 81 = .ok (.if_icmp .eq 6, 3) := by decide +kernel
theorem dX1_faultAt_84 : decode cX1_faultAt 84 = .ok (.bipush 7, 2) := by decide +kernel
theorem dX1_faultAt_86 : decode cX1_faultAt 86 = .ok (.ireturn, 1) := by decide +kernel
theorem dX1_faultAt_87 : decode cX1_faultAt 87 = .ok (.aload_n 3, 1) := by decide +kernel
theorem dX1_faultAt_88 : decode cX1_faultAt 88 = .ok (.aload_n 2, 1) := by decide +kernel
theorem dX1_faultAt_89 : decode cX1_faultAt 89 = .ok (.getfield 53, 3) := by decide +kernel
theorem dX1_faultAt_92 : decode cX1_faultAt 92 = .ok (.invokevirtual 63, 3) := by decide +kernel
theorem dX1_faultAt_95 : decode cX1_faultAt 95 = .ok (.ifCond .ne 6, 3) := by decide +kernel
theorem dX1_faultAt_98 : decode cX1_faultAt 98 = .ok (.bipush 8, 2) := by decide +kernel
theorem dX1_faultAt_100 : decode cX1_faultAt 100 = .ok (.ireturn, 1) := by decide +kernel
theorem dX1_faultAt_101 : decode cX1_faultAt 101 = .ok (.aload_n 3, 1) := by decide +kernel
theorem dX1_faultAt_102 : decode cX1_faultAt 102 = .ok (.aload_n 2, 1) := by decide +kernel
theorem dX1_faultAt_103 : decode cX1_faultAt 103 = .ok (.getfield 53, 3) := by decide +kernel
theorem dX1_faultAt_106 : decode cX1_faultAt 106 = .ok (.invokevirtual 67, 3) := by decide +kernel
theorem dX1_faultAt_109 : decode cX1_faultAt 109 = .ok (.ifCond .ne 6, 3) := by decide +kernel
theorem dX1_faultAt_112 : decode cX1_faultAt 112 = .ok (.bipush 10, 2) := by decide +kernel
theorem dX1_faultAt_114 : decode cX1_faultAt 114 = .ok (.ireturn, 1) := by decide +kernel
theorem dX1_faultAt_115 : decode cX1_faultAt 115 = .ok (.aload_n 3, 1) := by decide +kernel
theorem dX1_faultAt_116 : decode cX1_faultAt 116 = .ok (.aload_n 2, 1) := by decide +kernel
theorem dX1_faultAt_117 : decode cX1_faultAt 117 = .ok (.getfield 29, 3) := by decide +kernel
theorem dX1_faultAt_120 : decode cX1_faultAt 120 = .ok (.invokevirtual 70, 3) := by decide +kernel
theorem dX1_faultAt_123 : decode cX1_faultAt 123 = .ok (.ifCond .ne 6, 3) := by decide +kernel
theorem dX1_faultAt_126 : decode cX1_faultAt 126 = .ok (.bipush 11, 2) := by decide +kernel
theorem dX1_faultAt_128 : decode cX1_faultAt 128 = .ok (.ireturn, 1) := by decide +kernel
theorem dX1_faultAt_129 : decode cX1_faultAt 129 = .ok (.aload_n 3, 1) := by decide +kernel
theorem dX1_faultAt_130 : decode cX1_faultAt 130 = .ok (.getfield 73, 3) := by decide +kernel
theorem dX1_faultAt_133 : decode cX1_faultAt 133 = .ok (.ifnonnull 5, 3) := by decide +kernel
theorem dX1_faultAt_136 : decode cX1_faultAt 136 = .ok (.iconst 0, 1) := by decide +kernel
theorem dX1_faultAt_137 : decode cX1_faultAt 137 = .ok (.ireturn, 1) := by decide +kernel
theorem dX1_faultAt_138 : decode cX1_faultAt 138 = .ok (.aload_n 2, 1) := by decide +kernel
theorem dX1_faultAt_139 : decode cX1_faultAt 139 = .ok (.getfield 29, 3) := by decide +kernel
theorem dX1_faultAt_142 : decode cX1_faultAt 142 = .ok (.aload_n 3, 1) := by decide +kernel
theorem dX1_faultAt_143 : decode cX1_faultAt 143 = .ok (.getfield 77, 3) := by decide +kernel
theorem dX1_faultAt_146 : decode cX1_faultAt 146 = .ok (.invokevirtual 78, 3) := by decide +kernel
theorem dX1_faultAt_149 : decode cX1_faultAt 149 = .ok (.invokevirtual 84, 3) := by decide +kernel
theorem dX1_faultAt_152 : decode cX1_faultAt 152 = .ok (.lstore 4, 2) := by decide +kernel
theorem dX1_faultAt_154 : decode cX1_faultAt 154 = .ok (.aload_n 3, 1) := by decide +kernel
theorem dX1_faultAt_155 : decode cX1_faultAt 155 = .ok (.invokevirtual 88, 3) := by decide +kernel
theorem dX1_faultAt_158 : decode cX1_faultAt 158 = .ok (.ifCond .eq 22, 3) := by decide +kernel
theorem dX1_faultAt_161 : decode cX1_faultAt 161 = .ok (.aload_n 0, 1) := by decide +kernel
theorem dX1_faultAt_162 : decode cX1_faultAt 162 = .ok (.aload_n 3, 1) := by decide +kernel
theorem dX1_faultAt_163 : decode cX1_faultAt 163 = .ok (.getfield 73, 3) := by decide +kernel
theorem dX1_faultAt_166 : decode cX1_faultAt 166 = .ok (.lload 4, 2) := by decide +kernel
theorem dX1_faultAt_168 : decode cX1_faultAt 168 = .ok (.aload_n 2, 1) := by decide +kernel
theorem dX1_faultAt_169 : decode cX1_faultAt 169 = .ok (.getfield 53, 3) := by decide +kernel
theorem dX1_faultAt_172 : decode cX1_faultAt 172 = .ok (.getfield 92, 3) := by decide +kernel
theorem dX1_faultAt_175 : decode cX1_faultAt 175 = .ok (.iload_n 1, 1) := by decide +kernel
theorem dX1_faultAt_176 : decode cX1_faultAt 176 = .ok (.invokevirtual 96, 3) := by decide +kernel
theorem dX1_faultAt_179 : decode cX1_faultAt 179 = .ok (.ireturn, 1) := by decide +kernel
theorem dX1_faultAt_180 : decode cX1_faultAt 180 = .ok (.aload_n 3, 1) := by decide +kernel
theorem dX1_faultAt_181 : decode cX1_faultAt 181 = .ok (.getfield 73, 3) := by decide +kernel
theorem dX1_faultAt_184 : decode cX1_faultAt 184 = .ok (.lload 4, 2) := by decide +kernel
theorem dX1_faultAt_186 : decode cX1_faultAt 186 = .ok (.invokevirtual 100, 3) := by decide +kernel
theorem dX1_faultAt_189 : decode cX1_faultAt 189 = .ok (.ifCond .lt 7, 3) := by decide +kernel
theorem dX1_faultAt_192 : decode cX1_faultAt 192 = .ok (.iconst 1, 1) := by decide +kernel
theorem dX1_faultAt_193 : decode cX1_faultAt 193 = .ok (.goto 4, 3) := by decide +kernel
theorem dX1_faultAt_196 : decode cX1_faultAt 196 = .ok (.iconst 0, 1) := by decide +kernel
theorem dX1_faultAt_197 : decode cX1_faultAt 197 = .ok (.istore 6, 2) := by decide +kernel
theorem dX1_faultAt_199 : decode cX1_faultAt 199 = .ok (.iload 6, 2) := by decide +kernel
theorem dX1_faultAt_201 : decode cX1_faultAt 201 = .ok (.ifCond .ne 23, 3) := by decide +kernel
theorem dX1_faultAt_204 : decode cX1_faultAt 204 = .ok (.aload_n 0, 1) := by decide +kernel
theorem dX1_faultAt_205 : decode cX1_faultAt 205 = .ok (.aload_n 3, 1) := by decide +kernel
theorem dX1_faultAt_206 : decode cX1_faultAt 206 = .ok (.getfield 73, 3) := by decide +kernel
theorem dX1_faultAt_209 : decode cX1_faultAt 209 = .ok (.lload 4, 2) := by decide +kernel
theorem dX1_faultAt_211 : decode cX1_faultAt 211 = .ok (.aload_n 0, 1) := by decide +kernel
theorem dX1_faultAt_212 : decode cX1_faultAt 212 = .ok (.getfield 15, 3) := by decide +kernel
theorem dX1_faultAt_215 : decode cX1_faultAt 215 = .ok (.getfield 106, 3) := by decide +kernel
theorem dX1_faultAt_218 : decode cX1_faultAt 218 = .ok (.invokevirtual 109, 3) := by decide +kernel
theorem dX1_faultAt_221 : decode cX1_faultAt 221 = .ok (.ifCond .eq 7, 3) := by decide +kernel
theorem dX1_faultAt_224 : decode cX1_faultAt 224 = .ok (.iconst 0, 1) := by decide +kernel
theorem dX1_faultAt_225 : decode cX1_faultAt 225 = .ok (.goto 5, 3) := by decide +kernel
theorem dX1_faultAt_228 : decode cX1_faultAt 228 = .ok (.bipush 18, 2) := by decide +kernel
theorem dX1_faultAt_230 : decode cX1_faultAt 230 = .ok (.ireturn, 1) := by decide +kernel
theorem dX1_statusFault_0 : decode cX1_statusFault 0 = .ok (.aload_n 1, 1) := by decide +kernel
theorem dX1_statusFault_1 : decode cX1_statusFault 1 = .ok (.lload_n 2, 1) := by decide +kernel
theorem dX1_statusFault_2 : decode cX1_statusFault 2 = .ok (.invokevirtual 100, 3) := by decide +kernel
theorem dX1_statusFault_5 : decode cX1_statusFault 5 = .ok (.ifCond .lt 7, 3) := by decide +kernel
theorem dX1_statusFault_8 : decode cX1_statusFault 8 = .ok (.iconst 1, 1) := by decide +kernel
theorem dX1_statusFault_9 : decode cX1_statusFault 9 = .ok (.goto 4, 3) := by decide +kernel
theorem dX1_statusFault_12 : decode cX1_statusFault 12 = .ok (.iconst 0, 1) := by decide +kernel
theorem dX1_statusFault_13 : decode cX1_statusFault 13 = .ok (.istore 7, 2) := by decide +kernel
theorem dX1_statusFault_15 : decode cX1_statusFault 15 = .ok (.lload 4, 2) := by decide +kernel
theorem dX1_statusFault_17 : decode cX1_statusFault 17 = .ok (.lconst 1, 1) := by decide +kernel
theorem dX1_statusFault_18 : decode cX1_statusFault 18 = .ok (.lcmp, 1) := by decide +kernel
theorem dX1_statusFault_19 : decode cX1_statusFault 19 = .ok (.ifCond .eq 12, 3) := by decide +kernel
theorem dX1_statusFault_22 : decode cX1_statusFault 22 = .ok (.lload 4, 2) := by decide +kernel
theorem dX1_statusFault_24 : decode cX1_statusFault 24 = .ok (.ldc2_w 113, 3) := by decide +kernel
theorem dX1_statusFault_27 : decode cX1_statusFault 27 = .ok (.lcmp, 1) := by decide +kernel
theorem dX1_statusFault_28 : decode cX1_statusFault 28 = .ok (.ifCond .ne 15, 3) := by decide +kernel
theorem dX1_statusFault_31 : decode cX1_statusFault 31 = .ok (.iload 7, 2) := by decide +kernel
theorem dX1_statusFault_33 : decode cX1_statusFault 33 = .ok (.ifCond .eq 7, 3) := by decide +kernel
theorem dX1_statusFault_36 : decode cX1_statusFault 36 = .ok (.iconst 0, 1) := by decide +kernel
theorem dX1_statusFault_37 : decode cX1_statusFault 37 = .ok (.goto 5, 3) := by decide +kernel
theorem dX1_statusFault_40 : decode cX1_statusFault 40 = .ok (.bipush 12, 2) := by decide +kernel
theorem dX1_statusFault_42 : decode cX1_statusFault 42 = .ok (.ireturn, 1) := by decide +kernel
theorem dX1_statusFault_43 : decode cX1_statusFault 43 = .ok (.lload 4, 2) := by decide +kernel
theorem dX1_statusFault_45 : decode cX1_statusFault 45 = .ok (.ldc2_w 115, 3) := by decide +kernel
theorem dX1_statusFault_48 : decode cX1_statusFault 48 = .ok (.lcmp, 1) := by decide +kernel
theorem dX1_statusFault_49 : decode cX1_statusFault 49 = .ok (.ifCond .ne 5, 3) := by decide +kernel
theorem dX1_statusFault_52 : decode cX1_statusFault 52 = .ok (.iconst 0, 1) := by decide +kernel
theorem dX1_statusFault_53 : decode cX1_statusFault 53 = .ok (.ireturn, 1) := by decide +kernel
theorem dX1_statusFault_54 : decode cX1_statusFault 54 = .ok (.iload 7, 2) := by decide +kernel
theorem dX1_statusFault_56 : decode cX1_statusFault 56 = .ok (.ifCond .ne 14, 3) := by decide +kernel
theorem dX1_statusFault_59 : decode cX1_statusFault 59 = .ok (.aload_n 0, 1) := by decide +kernel
theorem dX1_statusFault_60 : decode cX1_statusFault 60 = .ok (.aload_n 1, 1) := by decide +kernel
theorem dX1_statusFault_61 : decode cX1_statusFault 61 = .ok (.lload_n 2, 1) := by decide +kernel
theorem dX1_statusFault_62 : decode cX1_statusFault 62 = .ok (.iload 6, 2) := by decide +kernel
theorem dX1_statusFault_64 : decode cX1_statusFault 64 = .ok (.invokevirtual 109, 3) := by decide +kernel
theorem dX1_statusFault_67 : decode cX1_statusFault 67 = .ok (.ifCond .eq 6, 3) := by decide +kernel
theorem dX1_statusFault_70 : decode cX1_statusFault 70 = .ok (.bipush 12, 2) := by decide +kernel
theorem dX1_statusFault_72 : decode cX1_statusFault 72 = .ok (.ireturn, 1) := by decide +kernel
theorem dX1_statusFault_73 : decode cX1_statusFault 73 = .ok (.aload_n 1, 1) := by decide +kernel
theorem dX1_statusFault_74 : decode cX1_statusFault 74 = .ok (.invokevirtual 117, 3) := by decide +kernel
theorem dX1_statusFault_77 : decode cX1_statusFault 77 = .ok (.aload_n 0, 1) := by decide +kernel
theorem dX1_statusFault_78 : decode cX1_statusFault 78 = .ok (.aload_n 1, 1) := by decide +kernel
theorem dX1_statusFault_79 : decode cX1_statusFault 79 = .ok (.iload 6, 2) := by decide +kernel
theorem dX1_statusFault_81 : decode cX1_statusFault 81 = .ok (.invokevirtual 120, 3) := by decide +kernel
theorem dX1_statusFault_84 : decode cX1_statusFault 84 = .ok (.iadd, 1) := by decide +kernel
theorem dX1_statusFault_85 : decode cX1_statusFault 85 = .ok (.bipush 16, 2) := by decide +kernel
theorem dX1_statusFault_87 : decode cX1_statusFault 87 = .ok (.if_icmp .lt 8, 3) := by decide +kernel
theorem dX1_statusFault_90 : decode cX1_statusFault 90 = .ok (.bipush 13, 2) := by decide +kernel
theorem dX1_statusFault_92 : decode cX1_statusFault 92 = .ok (.goto 4, 3) := by decide +kernel
theorem dX1_statusFault_95 : decode cX1_statusFault 95 = .ok (.iconst 0, 1) := by decide +kernel
theorem dX1_statusFault_96 : decode cX1_statusFault 96 = .ok (.ireturn, 1) := by decide +kernel
theorem dX1_isMade_0 : decode cX1_isMade 0 = .ok (.iconst 0, 1) := by decide +kernel
theorem dX1_isMade_1 : decode cX1_isMade 1 = .ok (.istore 5, 2) := by decide +kernel
theorem dX1_isMade_3 : decode cX1_isMade 3 = .ok (.iload 5, 2) := by decide +kernel
theorem dX1_isMade_5 : decode cX1_isMade 5 = .ok (.iload 4, 2) := by decide +kernel
theorem dX1_isMade_7 : decode cX1_isMade 7 = .ok (.if_icmp .ge 29, 3) := by decide +kernel
theorem dX1_isMade_10 : decode cX1_isMade 10 = .ok (.aload_n 0, 1) := by decide +kernel
theorem dX1_isMade_11 : decode cX1_isMade 11 = .ok (.getfield 15, 3) := by decide +kernel
theorem dX1_isMade_14 : decode cX1_isMade 14 = .ok (.iload 5, 2) := by decide +kernel
theorem dX1_isMade_16 : decode cX1_isMade 16 = .ok (.invokevirtual 19, 3) := by decide +kernel
theorem dX1_isMade_19 : decode cX1_isMade 19 = .ok (.aload_n 1, 1) := by decide +kernel
theorem dX1_isMade_20 : decode cX1_isMade 20 = .ok (.invokestatic 124, 3) := by decide +kernel
theorem dX1_isMade_23 : decode cX1_isMade 23 = .ok (.lload_n 2, 1) := by decide +kernel
theorem dX1_isMade_24 : decode cX1_isMade 24 = .ok (.lcmp, 1) := by decide +kernel
theorem dX1_isMade_25 : decode cX1_isMade 25 = .ok (.ifCond .ne 5, 3) := by decide +kernel
theorem dX1_isMade_28 : decode cX1_isMade 28 = .ok (.iconst 1, 1) := by decide +kernel
theorem dX1_isMade_29 : decode cX1_isMade 29 = .ok (.ireturn, 1) := by decide +kernel
theorem dX1_isMade_30 : decode cX1_isMade 30 = .ok (.iinc 5 1, 3) := by decide +kernel
theorem dX1_isMade_33 : decode cX1_isMade 33 = .ok (.goto (-30), 3) := by decide +kernel
theorem dX1_isMade_36 : decode cX1_isMade 36 = .ok (.iconst 0, 1) := by decide +kernel
theorem dX1_isMade_37 : decode cX1_isMade 37 = .ok (.ireturn, 1) := by decide +kernel
theorem dX1_madeBefore_0 : decode cX1_madeBefore 0 = .ok (.iconst 0, 1) := by decide +kernel
theorem dX1_madeBefore_1 : decode cX1_madeBefore 1 = .ok (.istore_n 3, 1) := by decide +kernel
theorem dX1_madeBefore_2 : decode cX1_madeBefore 2 = .ok (.iconst 0, 1) := by decide +kernel
theorem dX1_madeBefore_3 : decode cX1_madeBefore 3 = .ok (.istore 4, 2) := by decide +kernel
theorem dX1_madeBefore_5 : decode cX1_madeBefore 5 = .ok (.iload 4, 2) := by decide +kernel
theorem dX1_madeBefore_7 : decode cX1_madeBefore 7 = .ok (.iload_n 2, 1) := by decide +kernel
theorem dX1_madeBefore_8 : decode cX1_madeBefore 8 = .ok (.if_icmp .ge 35, 3) := by decide +kernel
theorem dX1_madeBefore_11 : decode cX1_madeBefore 11 = .ok (.iload_n 3, 1) := by decide +kernel
theorem dX1_madeBefore_12 : decode cX1_madeBefore 12 = .ok (.aload_n 0, 1) := by decide +kernel
theorem dX1_madeBefore_13 : decode cX1_madeBefore 13 = .ok (.getfield 15, 3) := by decide +kernel
theorem dX1_madeBefore_16 : decode cX1_madeBefore 16 = .ok (.iload 4, 2) := by decide +kernel
theorem dX1_madeBefore_18 : decode cX1_madeBefore 18 = .ok (.invokevirtual 19, 3) := by decide +kernel
theorem dX1_madeBefore_21 : decode cX1_madeBefore 21 = .ok (.aload_n 1, 1) := by decide +kernel
theorem dX1_madeBefore_22 : decode cX1_madeBefore 22 = .ok (.invokestatic 124, 3) := by decide +kernel
theorem dX1_madeBefore_25 : decode cX1_madeBefore 25 = .ok (.lconst 0, 1) := by decide +kernel
theorem dX1_madeBefore_26 : decode cX1_madeBefore 26 = .ok (.lcmp, 1) := by decide +kernel
theorem dX1_madeBefore_27 : decode cX1_madeBefore 27 = .ok (.ifCond .lt 7, 3) := by decide +kernel
theorem dX1_madeBefore_30 : decode cX1_madeBefore 30 = .ok (.iconst 1, 1) := by decide +kernel
theorem dX1_madeBefore_31 : decode cX1_madeBefore 31 = .ok (.goto 4, 3) := by decide +kernel
theorem dX1_madeBefore_34 : decode cX1_madeBefore 34 = .ok (.iconst 0, 1) := by decide +kernel
theorem dX1_madeBefore_35 : decode cX1_madeBefore 35 = .ok (.iadd, 1) := by decide +kernel
theorem dX1_madeBefore_36 : decode cX1_madeBefore 36 = .ok (.istore_n 3, 1) := by decide +kernel
theorem dX1_madeBefore_37 : decode cX1_madeBefore 37 = .ok (.iinc 4 1, 3) := by decide +kernel
theorem dX1_madeBefore_40 : decode cX1_madeBefore 40 = .ok (.goto (-35), 3) := by decide +kernel
theorem dX1_madeBefore_43 : decode cX1_madeBefore 43 = .ok (.iload_n 3, 1) := by decide +kernel
theorem dX1_madeBefore_44 : decode cX1_madeBefore 44 = .ok (.ireturn, 1) := by decide +kernel
theorem dX1_indexMade_0 : decode cX1_indexMade 0 = .ok (.aload_n 1, 1) := by decide +kernel
theorem dX1_indexMade_1 : decode cX1_indexMade 1 = .ok (.getfield 128, 3) := by decide +kernel
theorem dX1_indexMade_4 : decode cX1_indexMade 4 = .ok (.astore_n 2, 1) := by decide +kernel
theorem dX1_indexMade_5 : decode cX1_indexMade 5 = .ok (.aload_n 0, 1) := by decide +kernel
theorem dX1_indexMade_6 : decode cX1_indexMade 6 = .ok (.ifnull 18, 3) := by decide +kernel
theorem dX1_indexMade_9 : decode cX1_indexMade 9 = .ok (.aload_n 2, 1) := by decide +kernel
theorem dX1_indexMade_10 : decode cX1_indexMade 10 = .ok (.ifnull 14, 3) := by decide +kernel
theorem dX1_indexMade_13 : decode cX1_indexMade 13 = .ok (.aload_n 2, 1) := by decide +kernel
theorem dX1_indexMade_14 : decode cX1_indexMade 14 = .ok (.aload_n 0, 1) := by decide +kernel
theorem dX1_indexMade_15 : decode cX1_indexMade 15 = .ok (.getfield 29, 3) := by decide +kernel
theorem dX1_indexMade_18 : decode cX1_indexMade 18 = .ok (.invokevirtual 70, 3) := by decide +kernel
theorem dX1_indexMade_21 : decode cX1_indexMade 21 = .ok (.ifCond .ne 7, 3) := by decide +kernel
theorem dX1_indexMade_24 : decode cX1_indexMade 24 = .ok (.ldc2_w 132, 3) := by decide +kernel
theorem dX1_indexMade_27 : decode cX1_indexMade 27 = .ok (.lreturn, 1) := by decide +kernel
theorem dX1_indexMade_28 : decode cX1_indexMade 28 = .ok (.aload_n 0, 1) := by decide +kernel
theorem dX1_indexMade_29 : decode cX1_indexMade 29 = .ok (.getfield 53, 3) := by decide +kernel
theorem dX1_indexMade_32 : decode cX1_indexMade 32 = .ok (.getfield 57, 3) := by decide +kernel
theorem dX1_indexMade_35 : decode cX1_indexMade 35 = .ok (.iconst 2, 1) := by decide +kernel
theorem dX1_indexMade_36 : decode cX1_indexMade 36 = .ok (.if_icmp .ne 17, 3) := by decide +kernel
theorem dX1_indexMade_39 : decode cX1_indexMade 39 = .ok (.aload_n 0, 1) := by decide +kernel
theorem dX1_indexMade_40 : decode cX1_indexMade 40 = .ok (.getfield 29, 3) := by decide +kernel
theorem dX1_indexMade_43 : decode cX1_indexMade 43 = .ok (.aload_n 2, 1) := by decide +kernel
theorem dX1_indexMade_44 : decode cX1_indexMade 44 = .ok (.getfield 77, 3) := by decide +kernel
theorem dX1_indexMade_47 : decode cX1_indexMade 47 = .ok (.invokevirtual 134, 3) := by decide +kernel
theorem dX1_indexMade_50 : decode cX1_indexMade 50 = .ok (.ifCond .ne 7, 3) := by decide +kernel
theorem dX1_indexMade_53 : decode cX1_indexMade 53 = .ok (.ldc2_w 132, 3) := by decide +kernel
theorem dX1_indexMade_56 : decode cX1_indexMade 56 = .ok (.lreturn, 1) := by decide +kernel
theorem dX1_indexMade_57 : decode cX1_indexMade 57 = .ok (.aload_n 0, 1) := by decide +kernel
theorem dX1_indexMade_58 : decode cX1_indexMade 58 = .ok (.getfield 53, 3) := by decide +kernel
theorem dX1_indexMade_61 : decode cX1_indexMade 61 = .ok (.getfield 92, 3) := by decide +kernel
theorem dX1_indexMade_64 : decode cX1_indexMade 64 = .ok (.ldc2_w 137, 3) := by decide +kernel
theorem dX1_indexMade_67 : decode cX1_indexMade 67 = .ok (.lcmp, 1) := by decide +kernel
theorem dX1_indexMade_68 : decode cX1_indexMade 68 = .ok (.ifCond .eq 17, 3) := by decide +kernel
theorem dX1_indexMade_71 : decode cX1_indexMade 71 = .ok (.aload_n 0, 1) := by decide +kernel
theorem dX1_indexMade_72 : decode cX1_indexMade 72 = .ok (.getfield 53, 3) := by decide +kernel
theorem dX1_indexMade_75 : decode cX1_indexMade 75 = .ok (.getfield 92, 3) := by decide +kernel
theorem dX1_indexMade_78 : decode cX1_indexMade 78 = .ok (.ldc2_w 139, 3) := by decide +kernel
theorem dX1_indexMade_81 : decode cX1_indexMade 81 = .ok (.lcmp, 1) := by decide +kernel
theorem dX1_indexMade_82 : decode cX1_indexMade 82 = .ok (.ifCond .ne 7, 3) := by decide +kernel
theorem dX1_indexMade_85 : decode cX1_indexMade 85 = .ok (.iconst 1, 1) := by decide +kernel
theorem dX1_indexMade_86 : decode cX1_indexMade 86 = .ok (.goto 4, 3) := by decide +kernel
theorem dX1_indexMade_89 : decode cX1_indexMade 89 = .ok (.iconst 0, 1) := by decide +kernel
theorem dX1_indexMade_90 : decode cX1_indexMade 90 = .ok (.istore_n 3, 1) := by decide +kernel
theorem dX1_indexMade_91 : decode cX1_indexMade 91 = .ok (.iload_n 3, 1) := by decide +kernel
theorem dX1_indexMade_92 : decode cX1_indexMade 92 = .ok (.ifCond .eq 20, 3) := by decide +kernel
theorem dX1_indexMade_95 : decode cX1_indexMade 95 = .ok (.aload_n 0, 1) := by decide +kernel
theorem dX1_indexMade_96 : decode cX1_indexMade 96 = .ok (.getfield 29, 3) := by decide +kernel
theorem dX1_indexMade_99 : decode cX1_indexMade 99 = .ok (.aload_n 2, 1) := by decide +kernel
theorem dX1_indexMade_100 : decode cX1_indexMade 100 = .ok (.getfield 77, 3) := by decide +kernel
theorem dX1_indexMade_103 : decode cX1_indexMade 103 = .ok (.invokevirtual 78, 3) := by decide +kernel
theorem dX1_indexMade_106 : decode cX1_indexMade 106 = .ok (.invokevirtual 84, 3) := by decide +kernel
theorem dX1_indexMade_109 : decode cX1_indexMade 109 = .ok (.goto 6, 3) := by decide +kernel
theorem dX1_indexMade_112 : decode cX1_indexMade 112 = .ok (.ldc2_w 132, 3) := by decide +kernel
theorem dX1_indexMade_115 : decode cX1_indexMade 115 = .ok (.lreturn, 1) := by decide +kernel
theorem dX1_apply_0 : decode cX1_apply 0 = .ok (.iconst 0, 1) := by decide +kernel
theorem dX1_apply_1 : decode cX1_apply 1 = .ok (.istore_n 1, 1) := by decide +kernel
theorem dX1_apply_2 : decode cX1_apply 2 = .ok (.iload_n 1, 1) := by decide +kernel
theorem dX1_apply_3 : decode cX1_apply 3 = .ok (.aload_n 0, 1) := by decide +kernel
theorem dX1_apply_4 : decode cX1_apply 4 = .ok (.getfield 15, 3) := by decide +kernel
theorem dX1_apply_7 : decode cX1_apply 7 = .ok (.getfield 106, 3) := by decide +kernel
theorem dX1_apply_10 : decode cX1_apply 10 = .ok (.if_icmp .ge 21, 3) := by decide +kernel
theorem dX1_apply_13 : decode cX1_apply 13 = .ok (.aload_n 0, 1) := by decide +kernel
theorem dX1_apply_14 : decode cX1_apply 14 = .ok (.aload_n 0, 1) := by decide +kernel
theorem dX1_apply_15 : decode cX1_apply 15 = .ok (.getfield 15, 3) := by decide +kernel
theorem dX1_apply_18 : decode cX1_apply 18 = .ok (.iload_n 1, 1) := by decide +kernel
theorem dX1_apply_19 : decode cX1_apply 19 = .ok (.invokevirtual 19, 3) := by decide +kernel
theorem dX1_apply_22 : decode cX1_apply 22 = .ok (.invokevirtual 141, 3) := by decide +kernel
theorem dX1_apply_25 : decode cX1_apply 25 = .ok (.iinc 1 1, 3) := by decide +kernel
theorem dX1_apply_28 : decode cX1_apply 28 = .ok (.goto (-26), 3) := by decide +kernel
theorem dX1_apply_31 : decode cX1_apply 31 = .ok (.iconst 0, 1) := by decide +kernel
theorem dX1_apply_32 : decode cX1_apply 32 = .ok (.istore_n 1, 1) := by decide +kernel
theorem dX1_apply_33 : decode cX1_apply 33 = .ok (.iload_n 1, 1) := by decide +kernel
theorem dX1_apply_34 : decode cX1_apply 34 = .ok (.aload_n 0, 1) := by decide +kernel
theorem dX1_apply_35 : decode cX1_apply 35 = .ok (.getfield 15, 3) := by decide +kernel
theorem dX1_apply_38 : decode cX1_apply 38 = .ok (.getfield 106, 3) := by decide +kernel
theorem dX1_apply_41 : decode cX1_apply 41 = .ok (.if_icmp .ge 21, 3) := by decide +kernel
theorem dX1_apply_44 : decode cX1_apply 44 = .ok (.aload_n 0, 1) := by decide +kernel
theorem dX1_apply_45 : decode cX1_apply 45 = .ok (.aload_n 0, 1) := by decide +kernel
theorem dX1_apply_46 : decode cX1_apply 46 = .ok (.getfield 15, 3) := by decide +kernel
theorem dX1_apply_49 : decode cX1_apply 49 = .ok (.iload_n 1, 1) := by decide +kernel
theorem dX1_apply_50 : decode cX1_apply 50 = .ok (.invokevirtual 19, 3) := by decide +kernel
theorem dX1_apply_53 : decode cX1_apply 53 = .ok (.invokevirtual 145, 3) := by decide +kernel
theorem dX1_apply_56 : decode cX1_apply 56 = .ok (.iinc 1 1, 3) := by decide +kernel
theorem dX1_apply_59 : decode cX1_apply 59 = .ok (.goto (-26), 3) := by decide +kernel
theorem dX1_apply_62 : decode cX1_apply 62 = .ok (.return_, 1) := by decide +kernel
theorem dX1_makeRow_0 : decode cX1_makeRow 0 = .ok (.aload_n 1, 1) := by decide +kernel
theorem dX1_makeRow_1 : decode cX1_makeRow 1 = .ok (.ifnonnull 7, 3) := by decide +kernel
theorem dX1_makeRow_4 : decode cX1_makeRow 4 = .ok (.aconst_null, 1) := by decide +kernel
theorem dX1_makeRow_5 : decode cX1_makeRow 5 = .ok (.goto 14, 3) := by decide +kernel
theorem dX1_makeRow_8 : decode cX1_makeRow 8 = .ok (.aload_n 0, 1) := by decide +kernel
theorem dX1_makeRow_9 : decode cX1_makeRow 9 = .ok (.getfield 9, 3) := by decide +kernel
theorem dX1_makeRow_12 : decode cX1_makeRow 12 = .ok (.aload_n 1, 1) := by decide +kernel
theorem dX1_makeRow_13 : decode cX1_makeRow 13 = .ok (.getfield 29, 3) := by decide +kernel
theorem dX1_makeRow_16 : decode cX1_makeRow 16 = .ok (.invokevirtual 41, 3) := by decide +kernel
theorem dX1_makeRow_19 : decode cX1_makeRow 19 = .ok (.astore_n 2, 1) := by decide +kernel
theorem dX1_makeRow_20 : decode cX1_makeRow 20 = .ok (.aload_n 2, 1) := by decide +kernel
theorem dX1_makeRow_21 : decode cX1_makeRow 21 = .ok (.ifnull 10, 3) := by decide +kernel
theorem dX1_makeRow_24 : decode cX1_makeRow 24 = .ok (.aload_n 2, 1) := by decide +kernel
theorem dX1_makeRow_25 : decode cX1_makeRow 25 = .ok (.invokevirtual 88, 3) := by decide +kernel
theorem dX1_makeRow_28 : decode cX1_makeRow 28 = .ok (.ifCond .ne 4, 3) := by decide +kernel
theorem dX1_makeRow_31 : decode cX1_makeRow 31 = .ok (.return_, 1) := by decide +kernel
theorem dX1_makeRow_32 : decode cX1_makeRow 32 = .ok (.aload_n 1, 1) := by decide +kernel
theorem dX1_makeRow_33 : decode cX1_makeRow 33 = .ok (.aload_n 2, 1) := by decide +kernel
theorem dX1_makeRow_34 : decode cX1_makeRow 34 = .ok (.getfield 73, 3) := by decide +kernel
theorem dX1_makeRow_37 : decode cX1_makeRow 37 = .ok (.invokestatic 124, 3) := by decide +kernel
theorem dX1_makeRow_40 : decode cX1_makeRow 40 = .ok (.lstore_n 3, 1) := by decide +kernel
theorem dX1_makeRow_41 : decode cX1_makeRow 41 = .ok (.lload_n 3, 1) := by decide +kernel
theorem dX1_makeRow_42 : decode cX1_makeRow 42 = .ok (.lconst 1, 1) := by decide +kernel
theorem dX1_makeRow_43 : decode cX1_makeRow 43 = .ok (.lcmp, 1) := by decide +kernel
theorem dX1_makeRow_44 : decode cX1_makeRow 44 = .ok (.ifCond .lt 32, 3) := by decide +kernel
theorem dX1_makeRow_47 : decode cX1_makeRow 47 = .ok (.aload_n 2, 1) := by decide +kernel
theorem dX1_makeRow_48 : decode cX1_makeRow 48 = .ok (.getfield 73, 3) := by decide +kernel
theorem dX1_makeRow_51 : decode cX1_makeRow 51 = .ok (.lload_n 3, 1) := by decide +kernel
theorem dX1_makeRow_52 : decode cX1_makeRow 52 = .ok (.l2i, 1) := by decide +kernel
theorem dX1_makeRow_53 : decode cX1_makeRow 53 = .ok (.aload_n 1, 1) := by decide +kernel
theorem dX1_makeRow_54 : decode cX1_makeRow 54 = .ok (.getfield 53, 3) := by decide +kernel
theorem dX1_makeRow_57 : decode cX1_makeRow 57 = .ok (.getfield 92, 3) := by decide +kernel
theorem dX1_makeRow_60 : decode cX1_makeRow 60 = .ok (.ldc2_w 137, 3) := by decide +kernel
theorem dX1_makeRow_63 : decode cX1_makeRow 63 = .ok (.lcmp, 1) := by decide +kernel
theorem dX1_makeRow_64 : decode cX1_makeRow 64 = .ok (.ifCond .ne 7, 3) := by decide +kernel
theorem dX1_makeRow_67 : decode cX1_makeRow 67 = .ok (.iconst 1, 1) := by decide +kernel
theorem dX1_makeRow_68 : decode cX1_makeRow 68 = .ok (.goto 4, 3) := by decide +kernel
theorem dX1_makeRow_71 : decode cX1_makeRow 71 = .ok (.iconst 2, 1) := by decide +kernel
theorem dX1_makeRow_72 : decode cX1_makeRow 72 = .ok (.invokevirtual 148, 3) := by decide +kernel
theorem dX1_makeRow_75 : decode cX1_makeRow 75 = .ok (.pop, 1) := by decide +kernel
theorem dX1_makeRow_76 : decode cX1_makeRow 76 = .ok (.return_, 1) := by decide +kernel
theorem dX1_setOne_0 : decode cX1_setOne 0 = .ok (.aload_n 1, 1) := by decide +kernel
theorem dX1_setOne_1 : decode cX1_setOne 1 = .ok (.ifnonnull 7, 3) := by decide +kernel
theorem dX1_setOne_4 : decode cX1_setOne 4 = .ok (.aconst_null, 1) := by decide +kernel
theorem dX1_setOne_5 : decode cX1_setOne 5 = .ok (.goto 14, 3) := by decide +kernel
theorem dX1_setOne_8 : decode cX1_setOne 8 = .ok (.aload_n 0, 1) := by decide +kernel
theorem dX1_setOne_9 : decode cX1_setOne 9 = .ok (.getfield 9, 3) := by decide +kernel
theorem dX1_setOne_12 : decode cX1_setOne 12 = .ok (.aload_n 1, 1) := by decide +kernel
theorem dX1_setOne_13 : decode cX1_setOne 13 = .ok (.getfield 29, 3) := by decide +kernel
theorem dX1_setOne_16 : decode cX1_setOne 16 = .ok (.invokevirtual 41, 3) := by decide +kernel
theorem dX1_setOne_19 : decode cX1_setOne 19 = .ok (.astore_n 2, 1) := by decide +kernel
theorem dX1_setOne_20 : decode cX1_setOne 20 = .ok (.aload_n 2, 1) := by decide +kernel
theorem dX1_setOne_21 : decode cX1_setOne 21 = .ok (.ifnonnull 7, 3) := by decide +kernel
theorem dX1_setOne_24 : decode cX1_setOne 24 = .ok (.aconst_null, 1) := by decide +kernel
theorem dX1_setOne_25 : decode cX1_setOne 25 = .ok (.goto 21, 3) := by decide +kernel
theorem dX1_setOne_28 : decode cX1_setOne 28 = .ok (.aload_n 2, 1) := by decide +kernel
theorem dX1_setOne_29 : decode cX1_setOne 29 = .ok (.aload_n 1, 1) := by decide +kernel
theorem dX1_setOne_30 : decode cX1_setOne 30 = .ok (.getfield 29, 3) := by decide +kernel
theorem dX1_setOne_33 : decode cX1_setOne 33 = .ok (.aload_n 2, 1) := by decide +kernel
theorem dX1_setOne_34 : decode cX1_setOne 34 = .ok (.getfield 77, 3) := by decide +kernel
theorem dX1_setOne_37 : decode cX1_setOne 37 = .ok (.invokevirtual 78, 3) := by decide +kernel
theorem dX1_setOne_40 : decode cX1_setOne 40 = .ok (.invokevirtual 84, 3) := by decide +kernel
theorem dX1_setOne_43 : decode cX1_setOne 43 = .ok (.invokevirtual 152, 3) := by decide +kernel
theorem dX1_setOne_46 : decode cX1_setOne 46 = .ok (.astore_n 3, 1) := by decide +kernel
theorem dX1_setOne_47 : decode cX1_setOne 47 = .ok (.aload_n 3, 1) := by decide +kernel
theorem dX1_setOne_48 : decode cX1_setOne 48 = .ok (.ifnonnull 4, 3) := by decide +kernel
theorem dX1_setOne_51 : decode cX1_setOne 51 = .ok (.return_, 1) := by decide +kernel
theorem dX1_setOne_52 : decode cX1_setOne 52 = .ok (.aload_n 2, 1) := by decide +kernel
theorem dX1_setOne_53 : decode cX1_setOne 53 = .ok (.invokevirtual 88, 3) := by decide +kernel
theorem dX1_setOne_56 : decode cX1_setOne 56 = .ok (.ifCond .eq 29, 3) := by decide +kernel
theorem dX1_setOne_59 : decode cX1_setOne 59 = .ok (.aload_n 1, 1) := by decide +kernel
theorem dX1_setOne_60 : decode cX1_setOne 60 = .ok (.getfield 53, 3) := by decide +kernel
theorem dX1_setOne_63 : decode cX1_setOne 63 = .ok (.getfield 92, 3) := by decide +kernel
theorem dX1_setOne_66 : decode cX1_setOne 66 = .ok (.lconst 1, 1) := by decide +kernel
theorem dX1_setOne_67 : decode cX1_setOne 67 = .ok (.lcmp, 1) := by decide +kernel
theorem dX1_setOne_68 : decode cX1_setOne 68 = .ok (.ifCond .eq 17, 3) := by decide +kernel
theorem dX1_setOne_71 : decode cX1_setOne 71 = .ok (.aload_n 1, 1) := by decide +kernel
theorem dX1_setOne_72 : decode cX1_setOne 72 = .ok (.getfield 53, 3) := by decide +kernel
theorem dX1_setOne_75 : decode cX1_setOne 75 = .ok (.getfield 92, 3) := by decide +kernel
theorem dX1_setOne_78 : decode cX1_setOne 78 = .ok (.ldc2_w 113, 3) := by decide +kernel
theorem dX1_setOne_81 : decode cX1_setOne 81 = .ok (.lcmp, 1) := by decide +kernel
theorem dX1_setOne_82 : decode cX1_setOne 82 = .ok (.ifCond .ne 14, 3) := by decide +kernel
theorem dX1_setOne_85 : decode cX1_setOne 85 = .ok (.aload_n 3, 1) := by decide +kernel
theorem dX1_setOne_86 : decode cX1_setOne 86 = .ok (.aload_n 1, 1) := by decide +kernel
theorem dX1_setOne_87 : decode cX1_setOne 87 = .ok (.getfield 53, 3) := by decide +kernel
theorem dX1_setOne_90 : decode cX1_setOne 90 = .ok (.invokevirtual 156, 3) := by decide +kernel
theorem dX1_setOne_93 : decode cX1_setOne 93 = .ok (.goto 38, 3) := by decide +kernel
theorem dX1_setOne_96 : decode cX1_setOne 96 = .ok (.aload_n 1, 1) := by decide +kernel
theorem dX1_setOne_97 : decode cX1_setOne 97 = .ok (.getfield 53, 3) := by decide +kernel
theorem dX1_setOne_100 : decode cX1_setOne 100 = .ok (.getfield 92, 3) := by decide +kernel
theorem dX1_setOne_103 : decode cX1_setOne 103 = .ok (.ldc2_w 115, 3) := by decide +kernel
theorem dX1_setOne_106 : decode cX1_setOne 106 = .ok (.lcmp, 1) := by decide +kernel
theorem dX1_setOne_107 : decode cX1_setOne 107 = .ok (.ifCond .ne 24, 3) := by decide +kernel
theorem dX1_setOne_110 : decode cX1_setOne 110 = .ok (.aload_n 2, 1) := by decide +kernel
theorem dX1_setOne_111 : decode cX1_setOne 111 = .ok (.getfield 73, 3) := by decide +kernel
theorem dX1_setOne_114 : decode cX1_setOne 114 = .ok (.aload_n 1, 1) := by decide +kernel
theorem dX1_setOne_115 : decode cX1_setOne 115 = .ok (.getfield 29, 3) := by decide +kernel
theorem dX1_setOne_118 : decode cX1_setOne 118 = .ok (.aload_n 2, 1) := by decide +kernel
theorem dX1_setOne_119 : decode cX1_setOne 119 = .ok (.getfield 77, 3) := by decide +kernel
theorem dX1_setOne_122 : decode cX1_setOne 122 = .ok (.invokevirtual 78, 3) := by decide +kernel
theorem dX1_setOne_125 : decode cX1_setOne 125 = .ok (.invokevirtual 84, 3) := by decide +kernel
theorem dX1_setOne_128 : decode cX1_setOne 128 = .ok (.invokevirtual 160, 3) := by decide +kernel
theorem dX1_setOne_131 : decode cX1_setOne 131 = .ok (.return_, 1) := by decide +kernel
theorem dX2_init_0 : decode cX2_init 0 = .ok (.aload_n 0, 1) := by decide +kernel
theorem dX2_init_1 : decode cX2_init 1 = .ok (.invokespecial 3, 3) := by decide +kernel
theorem dX2_init_4 : decode cX2_init 4 = .ok (.aload_n 0, 1) := by decide +kernel
theorem dX2_init_5 : decode cX2_init 5 = .ok (.new 9, 3) := by decide +kernel
theorem dX2_init_8 : decode cX2_init 8 = .ok (.dup, 1) := by decide +kernel
theorem dX2_init_9 : decode cX2_init 9 = .ok (.bipush 40, 2) := by decide +kernel
theorem dX2_init_11 : decode cX2_init 11 = .ok (.invokespecial 11, 3) := by decide +kernel
theorem dX2_init_14 : decode cX2_init 14 = .ok (.putfield 14, 3) := by decide +kernel
theorem dX2_init_17 : decode cX2_init 17 = .ok (.aload_n 0, 1) := by decide +kernel
theorem dX2_init_18 : decode cX2_init 18 = .ok (.bipush 8, 2) := by decide +kernel
theorem dX2_init_20 : decode cX2_init 20 = .ok (.anewarray 9, 3) := by decide +kernel
theorem dX2_init_23 : decode cX2_init 23 = .ok (.putfield 20, 3) := by decide +kernel
theorem dX2_init_26 : decode cX2_init 26 = .ok (.aload_n 0, 1) := by decide +kernel
theorem dX2_init_27 : decode cX2_init 27 = .ok (.bipush 8, 2) := by decide +kernel
theorem dX2_init_29 : decode cX2_init 29 = .ok (.newarray .boolean, 2) := by decide +kernel
theorem dX2_init_31 : decode cX2_init 31 = .ok (.putfield 24, 3) := by decide +kernel
theorem dX2_init_34 : decode cX2_init 34 = .ok (.aload_n 0, 1) := by decide +kernel
theorem dX2_init_35 : decode cX2_init 35 = .ok (.getfield 14, 3) := by decide +kernel
theorem dX2_init_38 : decode cX2_init 38 = .ok (.aload_n 1, 1) := by decide +kernel
theorem dX2_init_39 : decode cX2_init 39 = .ok (.invokevirtual 28, 3) := by decide +kernel
theorem dX2_init_42 : decode cX2_init 42 = .ok (.aload_n 0, 1) := by decide +kernel
theorem dX2_init_43 : decode cX2_init 43 = .ok (.iload_n 2, 1) := by decide +kernel
theorem dX2_init_44 : decode cX2_init 44 = .ok (.putfield 32, 3) := by decide +kernel
theorem dX2_init_47 : decode cX2_init 47 = .ok (.return_, 1) := by decide +kernel
theorem dX2_viewCount_0 : decode cX2_viewCount 0 = .ok (.aload_n 0, 1) := by decide +kernel
theorem dX2_viewCount_1 : decode cX2_viewCount 1 = .ok (.getfield 36, 3) := by decide +kernel
theorem dX2_viewCount_4 : decode cX2_viewCount 4 = .ok (.ireturn, 1) := by decide +kernel
theorem dX2_addView_0 : decode cX2_addView 0 = .ok (.aload_n 0, 1) := by decide +kernel
theorem dX2_addView_1 : decode cX2_addView 1 = .ok (.getfield 36, 3) := by decide +kernel
theorem dX2_addView_4 : decode cX2_addView 4 = .ok (.ifCond .lt 27, 3) := by decide +kernel
theorem dX2_addView_7 : decode cX2_addView 7 = .ok (.aload_n 0, 1) := by decide +kernel
theorem dX2_addView_8 : decode cX2_addView 8 = .ok (.getfield 36, 3) := by decide +kernel
theorem dX2_addView_11 : decode cX2_addView 11 = .ok (.aload_n 0, 1) := by decide +kernel
theorem dX2_addView_12 : decode cX2_addView 12 = .ok (.getfield 20, 3) := by decide +kernel
theorem dX2_addView_15 : decode cX2_addView 15 = .ok (.arraylength, 1) := by decide +kernel
theorem dX2_addView_16 : decode cX2_addView 16 = .ok (.if_icmp .ge 15, 3) := by decide +kernel
theorem dX2_addView_19 : decode cX2_addView 19 = .ok (.aload_n 0, 1) := by decide +kernel
theorem dX2_addView_20 : decode cX2_addView 20 = .ok (.getfield 36, 3) := by decide +kernel
theorem dX2_addView_23 : decode cX2_addView 23 = .ok (.aload_n 0, 1) := by decide +kernel
theorem dX2_addView_24 : decode cX2_addView 24 = .ok (.getfield 24, 3) := by decide +kernel
theorem dX2_addView_27 : decode cX2_addView 27 = .ok (.arraylength, 1) := by decide +kernel
theorem dX2_addView_28 : decode cX2_addView 28 = .ok (.if_icmp .lt 5, 3) := by decide +kernel
theorem dX2_addView_31 : decode cX2_addView 31 = .ok (.iconst 0, 1) := by decide +kernel
theorem dX2_addView_32 : decode cX2_addView 32 = .ok (.ireturn, 1) := by decide +kernel
theorem dX2_addView_33 : decode cX2_addView 33 = .ok (.new 9, 3) := by decide +kernel
theorem dX2_addView_36 : decode cX2_addView 36 = .ok (.dup, 1) := by decide +kernel
theorem dX2_addView_37 : decode cX2_addView 37 = .ok (.bipush 16, 2) := by decide +kernel
theorem dX2_addView_39 : decode cX2_addView 39 = .ok (.invokespecial 11, 3) := by decide +kernel
theorem dX2_addView_42 : decode cX2_addView 42 = .ok (.astore_n 3, 1) := by decide +kernel
theorem dX2_addView_43 : decode cX2_addView 43 = .ok (.aload_n 3, 1) := by decide +kernel
theorem dX2_addView_44 : decode cX2_addView 44 = .ok (.aload_n 1, 1) := by decide +kernel
theorem dX2_addView_45 : decode cX2_addView 45 = .ok (.invokevirtual 28, 3) := by decide +kernel
theorem dX2_addView_48 : decode cX2_addView 48 = .ok (.aload_n 0, 1) := by decide +kernel
theorem dX2_addView_49 : decode cX2_addView 49 = .ok (.getfield 20, 3) := by decide +kernel
theorem dX2_addView_52 : decode cX2_addView 52 = .ok (.aload_n 0, 1) := by decide +kernel
theorem dX2_addView_53 : decode cX2_addView 53 = .ok (.getfield 36, 3) := by decide +kernel
theorem dX2_addView_56 : decode cX2_addView 56 = .ok (.aload_n 3, 1) := by decide +kernel
theorem dX2_addView_57 : decode cX2_addView 57 = .ok (.aastore, 1) := by decide +kernel
theorem dX2_addView_58 : decode cX2_addView 58 = .ok (.aload_n 0, 1) := by decide +kernel
theorem dX2_addView_59 : decode cX2_addView 59 = .ok (.getfield 24, 3) := by decide +kernel
theorem dX2_addView_62 : decode cX2_addView 62 = .ok (.aload_n 0, 1) := by decide +kernel
theorem dX2_addView_63 : decode cX2_addView 63 = .ok (.getfield 36, 3) := by decide +kernel
theorem dX2_addView_66 : decode cX2_addView 66 = .ok (.iload_n 2, 1) := by decide +kernel
theorem dX2_addView_67 : decode cX2_addView 67 = .ok (.bastore, 1) := by decide +kernel
theorem dX2_addView_68 : decode cX2_addView 68 = .ok (.aload_n 0, 1) := by decide +kernel
theorem dX2_addView_69 : decode cX2_addView 69 = .ok (.dup, 1) := by decide +kernel
theorem dX2_addView_70 : decode cX2_addView 70 = .ok (.getfield 36, 3) := by decide +kernel
theorem dX2_addView_73 : decode cX2_addView 73 = .ok (.iconst 1, 1) := by decide +kernel
theorem dX2_addView_74 : decode cX2_addView 74 = .ok (.iadd, 1) := by decide +kernel
theorem dX2_addView_75 : decode cX2_addView 75 = .ok (.putfield 36, 3) := by decide +kernel
theorem dX2_addView_78 : decode cX2_addView 78 = .ok (.iconst 1, 1) := by decide +kernel
theorem dX2_addView_79 : decode cX2_addView 79 = .ok (.ireturn, 1) := by decide +kernel
theorem dX2_shows_0 : decode cX2_shows 0 = .ok (.iconst 1, 1) := by decide +kernel
theorem dX2_shows_1 : decode cX2_shows 1 = .ok (.istore_n 2, 1) := by decide +kernel
theorem dX2_shows_2 : decode cX2_shows 2 = .ok (.iconst 0, 1) := by decide +kernel
theorem dX2_shows_3 : decode cX2_shows 3 = .ok (.istore_n 3, 1) := by decide +kernel
theorem dX2_shows_4 : decode cX2_shows 4 = .ok (.iconst 0, 1) := by decide +kernel
theorem dX2_shows_5 : decode cX2_shows 5 = .ok (.istore 4, 2) := by decide +kernel
theorem dX2_shows_7 : decode cX2_shows 7 = .ok (.iload 4, 2) := by decide +kernel
theorem dX2_shows_9 : decode cX2_shows 9 = .ok (.aload_n 0, 1) := by decide +kernel
theorem dX2_shows_10 : decode cX2_shows 10 = .ok (.getfield 36, 3) := by decide +kernel
theorem dX2_shows_13 : decode cX2_shows 13 = .ok (.if_icmp .ge 75, 3) := by decide +kernel
theorem dX2_shows_16 : decode cX2_shows 16 = .ok (.iload 4, 2) := by decide +kernel
theorem dX2_shows_18 : decode cX2_shows 18 = .ok (.aload_n 0, 1) := by decide +kernel
theorem dX2_shows_19 : decode cX2_shows 19 = .ok (.getfield 20, 3) := by decide +kernel
theorem dX2_shows_22 : decode cX2_shows 22 = .ok (.arraylength, 1) := by decide +kernel
theorem dX2_shows_23 : decode cX2_shows 23 = .ok (.if_icmp .ge 65, 3) := by decide +kernel
theorem dX2_shows_26 : decode cX2_shows 26 = .ok (.iload 4, 2) := by decide +kernel
theorem dX2_shows_28 : decode cX2_shows 28 = .ok (.aload_n 0, 1) := by decide +kernel
theorem dX2_shows_29 : decode cX2_shows 29 = .ok (.getfield 24, 3) := by decide +kernel
theorem dX2_shows_32 : decode cX2_shows 32 = .ok (.arraylength, 1) := by decide +kernel
theorem dX2_shows_33 : decode cX2_shows 33 = .ok (.if_icmp .ge 55, 3) := by decide +kernel
theorem dX2_shows_36 : decode cX2_shows 36 = .ok (.aload_n 0, 1) := by decide +kernel
theorem dX2_shows_37 : decode cX2_shows 37 = .ok (.getfield 20, 3) := by decide +kernel
theorem dX2_shows_40 : decode cX2_shows 40 = .ok (.iload 4, 2) := by decide +kernel
theorem dX2_shows_42 : decode cX2_shows 42 = .ok (.aaload, 1) := by decide +kernel
theorem dX2_shows_43 : decode cX2_shows 43 = .ok (.astore 5, 2) := by decide +kernel
theorem dX2_shows_45 : decode cX2_shows 45 = .ok (.aload 5, 2) := by decide +kernel
theorem dX2_shows_47 : decode cX2_shows 47 = .ok (.ifnull 35, 3) := by decide +kernel
theorem dX2_shows_50 : decode cX2_shows 50 = .ok (.aload 5, 2) := by decide +kernel
theorem dX2_shows_52 : decode cX2_shows 52 = .ok (.invokevirtual 40, 3) := by decide +kernel
theorem dX2_shows_55 : decode cX2_shows 55 = .ok (.iload_n 3, 1) := by decide +kernel
theorem dX2_shows_56 : decode cX2_shows 56 = .ok (.if_icmp .lt 26, 3) := by decide +kernel
theorem dX2_shows_59 : decode cX2_shows 59 = .ok (.aload_n 1, 1) := by decide +kernel
theorem dX2_shows_60 : decode cX2_shows 60 = .ok (.aload 5, 2) := by decide +kernel
theorem dX2_shows_62 : decode cX2_shows 62 = .ok (.invokevirtual 44, 3) := by decide +kernel
theorem dX2_shows_65 : decode cX2_shows 65 = .ok (.ifCond .eq 17, 3) := by decide +kernel
theorem dX2_shows_68 : decode cX2_shows 68 = .ok (.aload 5, 2) := by decide +kernel
theorem dX2_shows_70 : decode cX2_shows 70 = .ok (.invokevirtual 40, 3) := by decide +kernel
theorem dX2_shows_73 : decode cX2_shows 73 = .ok (.istore_n 3, 1) := by decide +kernel
theorem dX2_shows_74 : decode cX2_shows 74 = .ok (.aload_n 0, 1) := by decide +kernel
theorem dX2_shows_75 : decode cX2_shows 75 = .ok (.getfield 24, 3) := by decide +kernel
theorem dX2_shows_78 : decode cX2_shows 78 = .ok (.iload 4, 2) := by decide +kernel
theorem dX2_shows_80 : decode cX2_shows 80 = .ok (.baload, 1) := by decide +kernel
theorem dX2_shows_81 : decode cX2_shows 81 = .ok (.istore_n 2, 1) := by decide +kernel
theorem dX2_shows_82 : decode cX2_shows 82 = .ok (.iinc 4 1, 3) := by decide +kernel
theorem dX2_shows_85 : decode cX2_shows 85 = .ok (.goto (-78), 3) := by decide +kernel
theorem dX2_shows_88 : decode cX2_shows 88 = .ok (.iload_n 2, 1) := by decide +kernel
theorem dX2_shows_89 : decode cX2_shows 89 = .ok (.ireturn, 1) := by decide +kernel
theorem dX3_init_0 : decode cX3_init 0 = .ok (.aload_n 0, 1) := by decide +kernel
theorem dX3_init_1 : decode cX3_init 1 = .ok (.invokespecial 3, 3) := by decide +kernel
theorem dX3_init_4 : decode cX3_init 4 = .ok (.aload_n 0, 1) := by decide +kernel
theorem dX3_init_5 : decode cX3_init 5 = .ok (.new 9, 3) := by decide +kernel
theorem dX3_init_8 : decode cX3_init 8 = .ok (.dup, 1) := by decide +kernel
theorem dX3_init_9 : decode cX3_init 9 = .ok (.bipush 40, 2) := by decide +kernel
theorem dX3_init_11 : decode cX3_init 11 = .ok (.invokespecial 11, 3) := by decide +kernel
theorem dX3_init_14 : decode cX3_init 14 = .ok (.putfield 14, 3) := by decide +kernel
theorem dX3_init_17 : decode cX3_init 17 = .ok (.aload_n 0, 1) := by decide +kernel
theorem dX3_init_18 : decode cX3_init 18 = .ok (.bipush 20, 2) := by decide +kernel
theorem dX3_init_20 : decode cX3_init 20 = .ok (.anewarray 20, 3) := by decide +kernel
theorem dX3_init_23 : decode cX3_init 23 = .ok (.putfield 22, 3) := by decide +kernel
theorem dX3_init_26 : decode cX3_init 26 = .ok (.iconst 0, 1) := by decide +kernel
theorem dX3_init_27 : decode cX3_init 27 = .ok (.istore_n 1, 1) := by decide +kernel
theorem dX3_init_28 : decode cX3_init 28 = .ok (.iload_n 1, 1) := by decide +kernel
theorem dX3_init_29 : decode cX3_init 29 = .ok (.aload_n 0, 1) := by decide +kernel
theorem dX3_init_30 : decode cX3_init 30 = .ok (.getfield 22, 3) := by decide +kernel
theorem dX3_init_33 : decode cX3_init 33 = .ok (.arraylength, 1) := by decide +kernel
theorem dX3_init_34 : decode cX3_init 34 = .ok (.if_icmp .ge 32, 3) := by decide +kernel
theorem dX3_init_37 : decode cX3_init 37 = .ok (.aload_n 0, 1) := by decide +kernel
theorem dX3_init_38 : decode cX3_init 38 = .ok (.getfield 22, 3) := by decide +kernel
theorem dX3_init_41 : decode cX3_init 41 = .ok (.iload_n 1, 1) := by decide +kernel
theorem dX3_init_42 : decode cX3_init 42 = .ok (.new 20, 3) := by decide +kernel
theorem dX3_init_45 : decode cX3_init 45 = .ok (.dup, 1) := by decide +kernel
theorem dX3_init_46 : decode cX3_init 46 = .ok (.new 26, 3) := by decide +kernel
theorem dX3_init_49 : decode cX3_init 49 = .ok (.dup, 1) := by decide +kernel
theorem dX3_init_50 : decode cX3_init 50 = .ok (.iconst 5, 1) := by decide +kernel
theorem dX3_init_51 : decode cX3_init 51 = .ok (.bipush 40, 2) := by decide +kernel
theorem dX3_init_53 : decode cX3_init 53 = .ok (.invokespecial 28, 3) := by decide +kernel
theorem dX3_init_56 : decode cX3_init 56 = .ok (.invokespecial 31, 3) := by decide +kernel
theorem dX3_init_59 : decode cX3_init 59 = .ok (.aastore, 1) := by decide +kernel
theorem dX3_init_60 : decode cX3_init 60 = .ok (.iinc 1 1, 3) := by decide +kernel
theorem dX3_init_63 : decode cX3_init 63 = .ok (.goto (-35), 3) := by decide +kernel
theorem dX3_init_66 : decode cX3_init 66 = .ok (.return_, 1) := by decide +kernel
theorem dX3_pairAt_0 : decode cX3_pairAt 0 = .ok (.iload_n 1, 1) := by decide +kernel
theorem dX3_pairAt_1 : decode cX3_pairAt 1 = .ok (.ifCond .lt 21, 3) := by decide +kernel
theorem dX3_pairAt_4 : decode cX3_pairAt 4 = .ok (.iload_n 1, 1) := by decide +kernel
theorem dX3_pairAt_5 : decode cX3_pairAt 5 = .ok (.aload_n 0, 1) := by decide +kernel
theorem dX3_pairAt_6 : decode cX3_pairAt 6 = .ok (.getfield 22, 3) := by decide +kernel
theorem dX3_pairAt_9 : decode cX3_pairAt 9 = .ok (.arraylength, 1) := by decide +kernel
theorem dX3_pairAt_10 : decode cX3_pairAt 10 = .ok (.if_icmp .ge 12, 3) := by decide +kernel
theorem dX3_pairAt_13 : decode cX3_pairAt 13 = .ok (.aload_n 0, 1) := by decide +kernel
theorem dX3_pairAt_14 : decode cX3_pairAt 14 = .ok (.getfield 22, 3) := by decide +kernel
theorem dX3_pairAt_17 : decode cX3_pairAt 17 = .ok (.iload_n 1, 1) := by decide +kernel
theorem dX3_pairAt_18 : decode cX3_pairAt 18 = .ok (.aaload, 1) := by decide +kernel
theorem dX3_pairAt_19 : decode cX3_pairAt 19 = .ok (.goto 4, 3) := by decide +kernel
theorem dX3_pairAt_22 : decode cX3_pairAt 22 = .ok (.aconst_null, 1) := by decide +kernel
theorem dX3_pairAt_23 : decode cX3_pairAt 23 = .ok (.areturn, 1) := by decide +kernel
theorem dX4_init_0 : decode cX4_init 0 = .ok (.aload_n 0, 1) := by decide +kernel
theorem dX4_init_1 : decode cX4_init 1 = .ok (.invokespecial 3, 3) := by decide +kernel
theorem dX4_init_4 : decode cX4_init 4 = .ok (.aload_n 0, 1) := by decide +kernel
theorem dX4_init_5 : decode cX4_init 5 = .ok (.new 9, 3) := by decide +kernel
theorem dX4_init_8 : decode cX4_init 8 = .ok (.dup, 1) := by decide +kernel
theorem dX4_init_9 : decode cX4_init 9 = .ok (.bipush 16, 2) := by decide +kernel
theorem dX4_init_11 : decode cX4_init 11 = .ok (.invokespecial 11, 3) := by decide +kernel
theorem dX4_init_14 : decode cX4_init 14 = .ok (.putfield 14, 3) := by decide +kernel
theorem dX4_init_17 : decode cX4_init 17 = .ok (.aload_n 0, 1) := by decide +kernel
theorem dX4_init_18 : decode cX4_init 18 = .ok (.aload_n 1, 1) := by decide +kernel
theorem dX4_init_19 : decode cX4_init 19 = .ok (.putfield 20, 3) := by decide +kernel
theorem dX4_init_22 : decode cX4_init 22 = .ok (.return_, 1) := by decide +kernel
theorem dX5_init_0 : decode cX5_init 0 = .ok (.aload_n 0, 1) := by decide +kernel
theorem dX5_init_1 : decode cX5_init 1 = .ok (.invokespecial 3, 3) := by decide +kernel
theorem dX5_init_4 : decode cX5_init 4 = .ok (.aload_n 0, 1) := by decide +kernel
theorem dX5_init_5 : decode cX5_init 5 = .ok (.new 9, 3) := by decide +kernel
theorem dX5_init_8 : decode cX5_init 8 = .ok (.dup, 1) := by decide +kernel
theorem dX5_init_9 : decode cX5_init 9 = .ok (.iconst 2, 1) := by decide +kernel
theorem dX5_init_10 : decode cX5_init 10 = .ok (.iconst 0, 1) := by decide +kernel
theorem dX5_init_11 : decode cX5_init 11 = .ok (.invokespecial 11, 3) := by decide +kernel
theorem dX5_init_14 : decode cX5_init 14 = .ok (.putfield 14, 3) := by decide +kernel
theorem dX5_init_17 : decode cX5_init 17 = .ok (.aload_n 0, 1) := by decide +kernel
theorem dX5_init_18 : decode cX5_init 18 = .ok (.aload_n 1, 1) := by decide +kernel
theorem dX5_init_19 : decode cX5_init 19 = .ok (.putfield 20, 3) := by decide +kernel
theorem dX5_init_22 : decode cX5_init 22 = .ok (.return_, 1) := by decide +kernel
theorem dX5_readHead_0 : decode cX5_readHead 0 = .ok (.aload_n 0, 1) := by decide +kernel
theorem dX5_readHead_1 : decode cX5_readHead 1 = .ok (.iconst 0, 1) := by decide +kernel
theorem dX5_readHead_2 : decode cX5_readHead 2 = .ok (.putfield 24, 3) := by decide +kernel
theorem dX5_readHead_5 : decode cX5_readHead 5 = .ok (.aload_n 0, 1) := by decide +kernel
theorem dX5_readHead_6 : decode cX5_readHead 6 = .ok (.bipush 48, 2) := by decide +kernel
theorem dX5_readHead_8 : decode cX5_readHead 8 = .ok (.invokevirtual 28, 3) := by decide +kernel
theorem dX5_readHead_11 : decode cX5_readHead 11 = .ok (.ifCond .eq 10, 3) := by decide +kernel
theorem dX5_readHead_14 : decode cX5_readHead 14 = .ok (.aload_n 0, 1) := by decide +kernel
theorem dX5_readHead_15 : decode cX5_readHead 15 = .ok (.invokevirtual 32, 3) := by decide +kernel
theorem dX5_readHead_18 : decode cX5_readHead 18 = .ok (.ifCond .ne 5, 3) := by decide +kernel
theorem dX5_readHead_21 : decode cX5_readHead 21 = .ok (.iconst 1, 1) := by decide +kernel
theorem dX5_readHead_22 : decode cX5_readHead 22 = .ok (.ireturn, 1) := by decide +kernel
theorem dX5_readHead_23 : decode cX5_readHead 23 = .ok (.aload_n 0, 1) := by decide +kernel
theorem dX5_readHead_24 : decode cX5_readHead 24 = .ok (.getfield 14, 3) := by decide +kernel
theorem dX5_readHead_27 : decode cX5_readHead 27 = .ok (.getfield 36, 3) := by decide +kernel
theorem dX5_readHead_30 : decode cX5_readHead 30 = .ok (.lconst 0, 1) := by decide +kernel
theorem dX5_readHead_31 : decode cX5_readHead 31 = .ok (.lcmp, 1) := by decide +kernel
theorem dX5_readHead_32 : decode cX5_readHead 32 = .ok (.ifCond .eq 17, 3) := by decide +kernel
theorem dX5_readHead_35 : decode cX5_readHead 35 = .ok (.aload_n 0, 1) := by decide +kernel
theorem dX5_readHead_36 : decode cX5_readHead 36 = .ok (.getfield 14, 3) := by decide +kernel
theorem dX5_readHead_39 : decode cX5_readHead 39 = .ok (.getfield 36, 3) := by decide +kernel
theorem dX5_readHead_42 : decode cX5_readHead 42 = .ok (.lconst 1, 1) := by decide +kernel
theorem dX5_readHead_43 : decode cX5_readHead 43 = .ok (.lcmp, 1) := by decide +kernel
theorem dX5_readHead_44 : decode cX5_readHead 44 = .ok (.ifCond .eq 5, 3) := by decide +kernel
theorem dX5_readHead_47 : decode cX5_readHead 47 = .ok (.iconst 2, 1) := by decide +kernel
theorem dX5_readHead_48 : decode cX5_readHead 48 = .ok (.ireturn, 1) := by decide +kernel
theorem dX5_readHead_49 : decode cX5_readHead 49 = .ok (.aload_n 1, 1) := by decide +kernel
theorem dX5_readHead_50 : decode cX5_readHead 50 = .ok (.aload_n 0, 1) := by decide +kernel
theorem dX5_readHead_51 : decode cX5_readHead 51 = .ok (.getfield 14, 3) := by decide +kernel
theorem dX5_readHead_54 : decode cX5_readHead 54 = .ok (.getfield 36, 3) := by decide +kernel
theorem dX5_readHead_57 : decode cX5_readHead 57 = .ok (.l2i, 1) := by decide +kernel
theorem dX5_readHead_58 : decode cX5_readHead 58 = .ok (.putfield 40, 3) := by decide +kernel
theorem dX5_readHead_61 : decode cX5_readHead 61 = .ok (.aload_n 0, 1) := by decide +kernel
theorem dX5_readHead_62 : decode cX5_readHead 62 = .ok (.iconst 4, 1) := by decide +kernel
theorem dX5_readHead_63 : decode cX5_readHead 63 = .ok (.aload_n 0, 1) := by decide +kernel
theorem dX5_readHead_64 : decode cX5_readHead 64 = .ok (.getfield 20, 3) := by decide +kernel
theorem dX5_readHead_67 : decode cX5_readHead 67 = .ok (.invokevirtual 45, 3) := by decide +kernel
theorem dX5_readHead_70 : decode cX5_readHead 70 = .ok (.invokevirtual 51, 3) := by decide +kernel
theorem dX5_readHead_73 : decode cX5_readHead 73 = .ok (.istore_n 2, 1) := by decide +kernel
theorem dX5_readHead_74 : decode cX5_readHead 74 = .ok (.iload_n 2, 1) := by decide +kernel
theorem dX5_readHead_75 : decode cX5_readHead 75 = .ok (.ifCond .lt 19, 3) := by decide +kernel
theorem dX5_readHead_78 : decode cX5_readHead 78 = .ok (.aload_n 0, 1) := by decide +kernel
theorem dX5_readHead_79 : decode cX5_readHead 79 = .ok (.aload_n 1, 1) := by decide +kernel
theorem dX5_readHead_80 : decode cX5_readHead 80 = .ok (.getfield 55, 3) := by decide +kernel
theorem dX5_readHead_83 : decode cX5_readHead 83 = .ok (.iload_n 2, 1) := by decide +kernel
theorem dX5_readHead_84 : decode cX5_readHead 84 = .ok (.invokevirtual 58, 3) := by decide +kernel
theorem dX5_readHead_87 : decode cX5_readHead 87 = .ok (.ifCond .eq 7, 3) := by decide +kernel
theorem dX5_readHead_90 : decode cX5_readHead 90 = .ok (.iconst 0, 1) := by decide +kernel
theorem dX5_readHead_91 : decode cX5_readHead 91 = .ok (.goto 4, 3) := by decide +kernel
theorem dX5_readHead_94 : decode cX5_readHead 94 = .ok (.iconst 1, 1) := by decide +kernel
theorem dX5_readHead_95 : decode cX5_readHead 95 = .ok (.ireturn, 1) := by decide +kernel
theorem dX5_readBody_0 : decode cX5_readBody 0 = .ok (.aload_n 1, 1) := by decide +kernel
theorem dX5_readBody_1 : decode cX5_readBody 1 = .ok (.aload_n 0, 1) := by decide +kernel
theorem dX5_readBody_2 : decode cX5_readBody 2 = .ok (.getfield 20, 3) := by decide +kernel
theorem dX5_readBody_5 : decode cX5_readBody 5 = .ok (.aload_n 0, 1) := by decide +kernel
theorem dX5_readBody_6 : decode cX5_readBody 6 = .ok (.getfield 24, 3) := by decide +kernel
theorem dX5_readBody_9 : decode cX5_readBody 9 = .ok (.invokevirtual 62, 3) := by decide +kernel
theorem dX5_readBody_12 : decode cX5_readBody 12 = .ok (.l2i, 1) := by decide +kernel
theorem dX5_readBody_13 : decode cX5_readBody 13 = .ok (.putfield 65, 3) := by decide +kernel
theorem dX5_readBody_16 : decode cX5_readBody 16 = .ok (.aload_n 1, 1) := by decide +kernel
theorem dX5_readBody_17 : decode cX5_readBody 17 = .ok (.iconst 0, 1) := by decide +kernel
theorem dX5_readBody_18 : decode cX5_readBody 18 = .ok (.putfield 68, 3) := by decide +kernel
theorem dX5_readBody_21 : decode cX5_readBody 21 = .ok (.aload_n 1, 1) := by decide +kernel
theorem dX5_readBody_22 : decode cX5_readBody 22 = .ok (.getfield 65, 3) := by decide +kernel
theorem dX5_readBody_25 : decode cX5_readBody 25 = .ok (.aload_n 1, 1) := by decide +kernel
theorem dX5_readBody_26 : decode cX5_readBody 26 = .ok (.getfield 40, 3) := by decide +kernel
theorem dX5_readBody_29 : decode cX5_readBody 29 = .ok (.invokestatic 71, 3) := by decide +kernel
theorem dX5_readBody_32 : decode cX5_readBody 32 = .ok (.ifCond .eq 21, 3) := by decide +kernel
theorem dX5_readBody_35 : decode cX5_readBody 35 = .ok (.aload_n 0, 1) := by decide +kernel
theorem dX5_readBody_36 : decode cX5_readBody 36 = .ok (.aload_n 1, 1) := by decide +kernel
theorem dX5_readBody_37 : decode cX5_readBody 37 = .ok (.getfield 65, 3) := by decide +kernel
theorem dX5_readBody_40 : decode cX5_readBody 40 = .ok (.invokevirtual 28, 3) := by decide +kernel
theorem dX5_readBody_43 : decode cX5_readBody 43 = .ok (.ifCond .eq 10, 3) := by decide +kernel
theorem dX5_readBody_46 : decode cX5_readBody 46 = .ok (.aload_n 0, 1) := by decide +kernel
theorem dX5_readBody_47 : decode cX5_readBody 47 = .ok (.invokevirtual 32, 3) := by decide +kernel
theorem dX5_readBody_50 : decode cX5_readBody 50 = .ok (.ifCond .ne 5, 3) := by decide +kernel
theorem dX5_readBody_53 : decode cX5_readBody 53 = .ok (.iconst 0, 1) := by decide +kernel
theorem dX5_readBody_54 : decode cX5_readBody 54 = .ok (.ireturn, 1) := by decide +kernel
theorem dX5_readBody_55 : decode cX5_readBody 55 = .ok (.aload_n 1, 1) := by decide +kernel
theorem dX5_readBody_56 : decode cX5_readBody 56 = .ok (.aload_n 0, 1) := by decide +kernel
theorem dX5_readBody_57 : decode cX5_readBody 57 = .ok (.getfield 14, 3) := by decide +kernel
theorem dX5_readBody_60 : decode cX5_readBody 60 = .ok (.getfield 36, 3) := by decide +kernel
theorem dX5_readBody_63 : decode cX5_readBody 63 = .ok (.l2i, 1) := by decide +kernel
theorem dX5_readBody_64 : decode cX5_readBody 64 = .ok (.putfield 75, 3) := by decide +kernel
theorem dX5_readBody_67 : decode cX5_readBody 67 = .ok (.aload_n 0, 1) := by decide +kernel
theorem dX5_readBody_68 : decode cX5_readBody 68 = .ok (.invokevirtual 32, 3) := by decide +kernel
theorem dX5_readBody_71 : decode cX5_readBody 71 = .ok (.ifCond .ne 5, 3) := by decide +kernel
theorem dX5_readBody_74 : decode cX5_readBody 74 = .ok (.iconst 0, 1) := by decide +kernel
theorem dX5_readBody_75 : decode cX5_readBody 75 = .ok (.ireturn, 1) := by decide +kernel
theorem dX5_readBody_76 : decode cX5_readBody 76 = .ok (.aload_n 1, 1) := by decide +kernel
theorem dX5_readBody_77 : decode cX5_readBody 77 = .ok (.aload_n 0, 1) := by decide +kernel
theorem dX5_readBody_78 : decode cX5_readBody 78 = .ok (.getfield 14, 3) := by decide +kernel
theorem dX5_readBody_81 : decode cX5_readBody 81 = .ok (.getfield 36, 3) := by decide +kernel
theorem dX5_readBody_84 : decode cX5_readBody 84 = .ok (.l2i, 1) := by decide +kernel
theorem dX5_readBody_85 : decode cX5_readBody 85 = .ok (.putfield 78, 3) := by decide +kernel
theorem dX5_readBody_88 : decode cX5_readBody 88 = .ok (.aload_n 0, 1) := by decide +kernel
theorem dX5_readBody_89 : decode cX5_readBody 89 = .ok (.invokevirtual 32, 3) := by decide +kernel
theorem dX5_readBody_92 : decode cX5_readBody 92 = .ok (.ifCond .ne 5, 3) := by decide +kernel
theorem dX5_readBody_95 : decode cX5_readBody 95 = .ok (.iconst 0, 1) := by decide +kernel
theorem dX5_readBody_96 : decode cX5_readBody 96 = .ok (.ireturn, 1) := by decide +kernel
theorem dX5_readBody_97 : decode cX5_readBody 97 = .ok (.aload_n 1, 1) := by decide +kernel
theorem dX5_readBody_98 : decode cX5_readBody 98 = .ok (.aload_n 0, 1) := by decide +kernel
theorem dX5_readBody_99 : decode cX5_readBody 99 = .ok (.getfield 14, 3) := by decide +kernel
theorem dX5_readBody_102 : decode cX5_readBody 102 = .ok (.getfield 36, 3) := by decide +kernel
theorem dX5_readBody_105 : decode cX5_readBody 105 = .ok (.l2i, 1) := by decide +kernel
theorem dX5_readBody_106 : decode cX5_readBody 106 = .ok (.putfield 81, 3) := by decide +kernel
theorem dX5_readBody_109 : decode cX5_readBody 109 = .ok (.aload_n 0, 1) := by decide +kernel
theorem dX5_readBody_110 : decode cX5_readBody 110 = .ok (.bipush 48, 2) := by decide +kernel
theorem dX5_readBody_112 : decode cX5_readBody 112 = .ok (.invokevirtual 28, 3) := by decide +kernel
theorem dX5_readBody_115 : decode cX5_readBody 115 = .ok (.ifCond .ne 5, 3) := by decide +kernel
theorem dX5_readBody_118 : decode cX5_readBody 118 = .ok (.iconst 0, 1) := by decide +kernel
theorem dX5_readBody_119 : decode cX5_readBody 119 = .ok (.ireturn, 1) := by decide +kernel
theorem dX5_readBody_120 : decode cX5_readBody 120 = .ok (.iconst 0, 1) := by decide +kernel
theorem dX5_readBody_121 : decode cX5_readBody 121 = .ok (.istore_n 2, 1) := by decide +kernel
theorem dX5_readBody_122 : decode cX5_readBody 122 = .ok (.iload_n 2, 1) := by decide +kernel
theorem dX5_readBody_123 : decode cX5_readBody 123 = .ok (.bipush 20, 2) := by decide +kernel
theorem dX5_readBody_125 : decode cX5_readBody 125 = .ok (.if_icmp .ge 53, 3) := by decide +kernel
theorem dX5_readBody_128 : decode cX5_readBody 128 = .ok (.aload_n 0, 1) := by decide +kernel
theorem dX5_readBody_129 : decode cX5_readBody 129 = .ok (.getfield 24, 3) := by decide +kernel
theorem dX5_readBody_132 : decode cX5_readBody 132 = .ok (.aload_n 0, 1) := by decide +kernel
theorem dX5_readBody_133 : decode cX5_readBody 133 = .ok (.getfield 20, 3) := by decide +kernel
theorem dX5_readBody_136 : decode cX5_readBody 136 = .ok (.invokevirtual 45, 3) := by decide +kernel
theorem dX5_readBody_139 : decode cX5_readBody 139 = .ok (.if_icmp .ge 39, 3) := by decide +kernel
theorem dX5_readBody_142 : decode cX5_readBody 142 = .ok (.aload_n 1, 1) := by decide +kernel
theorem dX5_readBody_143 : decode cX5_readBody 143 = .ok (.iload_n 2, 1) := by decide +kernel
theorem dX5_readBody_144 : decode cX5_readBody 144 = .ok (.invokevirtual 84, 3) := by decide +kernel
theorem dX5_readBody_147 : decode cX5_readBody 147 = .ok (.astore_n 3, 1) := by decide +kernel
theorem dX5_readBody_148 : decode cX5_readBody 148 = .ok (.aload_n 3, 1) := by decide +kernel
theorem dX5_readBody_149 : decode cX5_readBody 149 = .ok (.ifnull 11, 3) := by decide +kernel
theorem dX5_readBody_152 : decode cX5_readBody 152 = .ok (.aload_n 0, 1) := by decide +kernel
theorem dX5_readBody_153 : decode cX5_readBody 153 = .ok (.aload_n 3, 1) := by decide +kernel
theorem dX5_readBody_154 : decode cX5_readBody 154 = .ok (.invokevirtual 88, 3) := by decide +kernel
theorem dX5_readBody_157 : decode cX5_readBody 157 = .ok (.ifCond .ne 5, 3) := by decide +kernel
theorem dX5_readBody_160 : decode cX5_readBody 160 = .ok (.iconst 0, 1) := by decide +kernel
theorem dX5_readBody_161 : decode cX5_readBody 161 = .ok (.ireturn, 1) := by decide +kernel
theorem dX5_readBody_162 : decode cX5_readBody 162 = .ok (.aload_n 1, 1) := by decide +kernel
theorem dX5_readBody_163 : decode cX5_readBody 163 = .ok (.dup, 1) := by decide +kernel
theorem dX5_readBody_164 : decode cX5_readBody 164 = .ok (.getfield 68, 3) := by decide +kernel
theorem dX5_readBody_167 : decode cX5_readBody 167 = .ok (.iconst 1, 1) := by decide +kernel
theorem dX5_readBody_168 : decode cX5_readBody 168 = .ok (.iadd, 1) := by decide +kernel
theorem dX5_readBody_169 : decode cX5_readBody 169 = .ok (.putfield 68, 3) := by decide +kernel
theorem dX5_readBody_172 : decode cX5_readBody 172 = .ok (.iinc 2 1, 3) := by decide +kernel
theorem dX5_readBody_175 : decode cX5_readBody 175 = .ok (.goto (-53), 3) := by decide +kernel
theorem dX5_readBody_178 : decode cX5_readBody 178 = .ok (.aload_n 0, 1) := by decide +kernel
theorem dX5_readBody_179 : decode cX5_readBody 179 = .ok (.getfield 24, 3) := by decide +kernel
theorem dX5_readBody_182 : decode cX5_readBody 182 = .ok (.aload_n 0, 1) := by decide +kernel
theorem dX5_readBody_183 : decode cX5_readBody 183 = .ok (.getfield 20, 3) := by decide +kernel
theorem dX5_readBody_186 : decode cX5_readBody 186 = .ok (.invokevirtual 45, 3) := by decide +kernel
theorem dX5_readBody_189 : decode cX5_readBody 189 = .ok (.if_icmp .ne 7, 3) := by decide +kernel
theorem dX5_readBody_192 : decode cX5_readBody 192 = .ok (.iconst 1, 1) := by decide +kernel
theorem dX5_readBody_193 : decode cX5_readBody 193 = .ok (.goto 4, 3) := by decide +kernel
theorem dX5_readBody_196 : decode cX5_readBody 196 = .ok (.iconst 0, 1) := by decide +kernel
theorem dX5_readBody_197 : decode cX5_readBody 197 = .ok (.ireturn, 1) := by decide +kernel
theorem dX5_isKind_0 : decode cX5_isKind 0 = .ok (.iload_n 0, 1) := by decide +kernel
theorem dX5_isKind_1 : decode cX5_isKind 1 = .ok (.sipush 160, 3) := by decide +kernel
theorem dX5_isKind_4 : decode cX5_isKind 4 = .ok (.if_icmp .eq 29, 3) := by decide +kernel
theorem dX5_isKind_7 : decode cX5_isKind 7 = .ok (.iload_n 0, 1) := by decide +kernel
theorem dX5_isKind_8 : decode cX5_isKind 8 = .ok (.sipush 161, 3) := by decide +kernel
theorem dX5_isKind_11 : decode cX5_isKind 11 = .ok (.if_icmp .eq 22, 3) := by decide +kernel
theorem dX5_isKind_14 : decode cX5_isKind 14 = .ok (.iload_n 0, 1) := by decide +kernel
theorem dX5_isKind_15 : decode cX5_isKind 15 = .ok (.sipush 163, 3) := by decide +kernel
theorem dX5_isKind_18 : decode cX5_isKind 18 = .ok (.if_icmp .eq 15, 3) := by decide +kernel
theorem dX5_isKind_21 : decode cX5_isKind 21 = .ok (.iload_n 0, 1) := by decide +kernel
theorem dX5_isKind_22 : decode cX5_isKind 22 = .ok (.sipush 165, 3) := by decide +kernel
theorem dX5_isKind_25 : decode cX5_isKind 25 = .ok (.if_icmp .ne 12, 3) := by decide +kernel
theorem dX5_isKind_28 : decode cX5_isKind 28 = .ok (.iload_n 1, 1) := by decide +kernel
theorem dX5_isKind_29 : decode cX5_isKind 29 = .ok (.iconst 1, 1) := by decide +kernel
theorem dX5_isKind_30 : decode cX5_isKind 30 = .ok (.if_icmp .ne 7, 3) := by decide +kernel
theorem dX5_isKind_33 : decode cX5_isKind 33 = .ok (.iconst 1, 1) := by decide +kernel
theorem dX5_isKind_34 : decode cX5_isKind 34 = .ok (.goto 4, 3) := by decide +kernel
theorem dX5_isKind_37 : decode cX5_isKind 37 = .ok (.iconst 0, 1) := by decide +kernel
theorem dX5_isKind_38 : decode cX5_isKind 38 = .ok (.ireturn, 1) := by decide +kernel
theorem dX5_readPair_0 : decode cX5_readPair 0 = .ok (.aload_n 0, 1) := by decide +kernel
theorem dX5_readPair_1 : decode cX5_readPair 1 = .ok (.bipush 48, 2) := by decide +kernel
theorem dX5_readPair_3 : decode cX5_readPair 3 = .ok (.aload_n 0, 1) := by decide +kernel
theorem dX5_readPair_4 : decode cX5_readPair 4 = .ok (.getfield 20, 3) := by decide +kernel
theorem dX5_readPair_7 : decode cX5_readPair 7 = .ok (.invokevirtual 45, 3) := by decide +kernel
theorem dX5_readPair_10 : decode cX5_readPair 10 = .ok (.invokevirtual 51, 3) := by decide +kernel
theorem dX5_readPair_13 : decode cX5_readPair 13 = .ok (.istore_n 2, 1) := by decide +kernel
theorem dX5_readPair_14 : decode cX5_readPair 14 = .ok (.iload_n 2, 1) := by decide +kernel
theorem dX5_readPair_15 : decode cX5_readPair 15 = .ok (.ifCond .ge 7, 3) := by decide +kernel
theorem dX5_readPair_18 : decode cX5_readPair 18 = .ok (.iconst (-1), 1) := by decide +kernel
theorem dX5_readPair_19 : decode cX5_readPair 19 = .ok (.goto 10, 3) := by decide +kernel
theorem dX5_readPair_22 : decode cX5_readPair 22 = .ok (.aload_n 0, 1) := by decide +kernel
theorem dX5_readPair_23 : decode cX5_readPair 23 = .ok (.bipush 6, 2) := by decide +kernel
theorem dX5_readPair_25 : decode cX5_readPair 25 = .ok (.iload_n 2, 1) := by decide +kernel
theorem dX5_readPair_26 : decode cX5_readPair 26 = .ok (.invokevirtual 51, 3) := by decide +kernel
theorem dX5_readPair_29 : decode cX5_readPair 29 = .ok (.istore_n 3, 1) := by decide +kernel
theorem dX5_readPair_30 : decode cX5_readPair 30 = .ok (.iload_n 3, 1) := by decide +kernel
theorem dX5_readPair_31 : decode cX5_readPair 31 = .ok (.ifCond .lt 15, 3) := by decide +kernel
theorem dX5_readPair_34 : decode cX5_readPair 34 = .ok (.aload_n 0, 1) := by decide +kernel
theorem dX5_readPair_35 : decode cX5_readPair 35 = .ok (.aload_n 1, 1) := by decide +kernel
theorem dX5_readPair_36 : decode cX5_readPair 36 = .ok (.getfield 92, 3) := by decide +kernel
theorem dX5_readPair_39 : decode cX5_readPair 39 = .ok (.iload_n 3, 1) := by decide +kernel
theorem dX5_readPair_40 : decode cX5_readPair 40 = .ok (.invokevirtual 97, 3) := by decide +kernel
theorem dX5_readPair_43 : decode cX5_readPair 43 = .ok (.ifCond .ne 5, 3) := by decide +kernel
theorem dX5_readPair_46 : decode cX5_readPair 46 = .ok (.iconst 0, 1) := by decide +kernel
theorem dX5_readPair_47 : decode cX5_readPair 47 = .ok (.ireturn, 1) := by decide +kernel
theorem dX5_readPair_48 : decode cX5_readPair 48 = .ok (.aload_n 0, 1) := by decide +kernel
theorem dX5_readPair_49 : decode cX5_readPair 49 = .ok (.aload_n 1, 1) := by decide +kernel
theorem dX5_readPair_50 : decode cX5_readPair 50 = .ok (.getfield 100, 3) := by decide +kernel
theorem dX5_readPair_53 : decode cX5_readPair 53 = .ok (.iload_n 2, 1) := by decide +kernel
theorem dX5_readPair_54 : decode cX5_readPair 54 = .ok (.invokevirtual 103, 3) := by decide +kernel
theorem dX5_readPair_57 : decode cX5_readPair 57 = .ok (.ifCond .eq 15, 3) := by decide +kernel
theorem dX5_readPair_60 : decode cX5_readPair 60 = .ok (.aload_n 0, 1) := by decide +kernel
theorem dX5_readPair_61 : decode cX5_readPair 61 = .ok (.getfield 24, 3) := by decide +kernel
theorem dX5_readPair_64 : decode cX5_readPair 64 = .ok (.iload_n 2, 1) := by decide +kernel
theorem dX5_readPair_65 : decode cX5_readPair 65 = .ok (.if_icmp .ne 7, 3) := by decide +kernel
theorem dX5_readPair_68 : decode cX5_readPair 68 = .ok (.iconst 1, 1) := by decide +kernel
theorem dX5_readPair_69 : decode cX5_readPair 69 = .ok (.goto 4, 3) := by decide +kernel
theorem dX5_readPair_72 : decode cX5_readPair 72 = .ok (.iconst 0, 1) := by decide +kernel
theorem dX5_readPair_73 : decode cX5_readPair 73 = .ok (.ireturn, 1) := by decide +kernel
theorem dX5_readValue_0 : decode cX5_readValue 0 = .ok (.aload_n 0, 1) := by decide +kernel
theorem dX5_readValue_1 : decode cX5_readValue 1 = .ok (.getfield 20, 3) := by decide +kernel
theorem dX5_readValue_4 : decode cX5_readValue 4 = .ok (.aload_n 0, 1) := by decide +kernel
theorem dX5_readValue_5 : decode cX5_readValue 5 = .ok (.getfield 24, 3) := by decide +kernel
theorem dX5_readValue_8 : decode cX5_readValue 8 = .ok (.invokevirtual 62, 3) := by decide +kernel
theorem dX5_readValue_11 : decode cX5_readValue 11 = .ok (.l2i, 1) := by decide +kernel
theorem dX5_readValue_12 : decode cX5_readValue 12 = .ok (.istore_n 3, 1) := by decide +kernel
theorem dX5_readValue_13 : decode cX5_readValue 13 = .ok (.aload_n 0, 1) := by decide +kernel
theorem dX5_readValue_14 : decode cX5_readValue 14 = .ok (.iload_n 3, 1) := by decide +kernel
theorem dX5_readValue_15 : decode cX5_readValue 15 = .ok (.iload_n 2, 1) := by decide +kernel
theorem dX5_readValue_16 : decode cX5_readValue 16 = .ok (.invokevirtual 51, 3) := by decide +kernel
theorem dX5_readValue_19 : decode cX5_readValue 19 = .ok (.istore 4, 2) := by decide +kernel
theorem dX5_readValue_21 : decode cX5_readValue 21 = .ok (.iload 4, 2) := by decide +kernel
theorem dX5_readValue_23 : decode cX5_readValue 23 = .ok (.ifCond .ge 5, 3) := by decide +kernel
theorem dX5_readValue_26 : decode cX5_readValue 26 = .ok (.iconst 0, 1) := by decide +kernel
theorem dX5_readValue_27 : decode cX5_readValue 27 = .ok (.ireturn, 1) := by decide +kernel
theorem dX5_readValue_28 : decode cX5_readValue 28 = .ok (.aload_n 1, 1) := by decide +kernel
theorem dX5_readValue_29 : decode cX5_readValue 29 = .ok (.iload_n 3, 1) := by decide +kernel
theorem dX5_readValue_30 : decode cX5_readValue 30 = .ok (.invokevirtual 107, 3) := by decide +kernel
theorem dX5_readValue_33 : decode cX5_readValue 33 = .ok (.iload_n 3, 1) := by decide +kernel
theorem dX5_readValue_34 : decode cX5_readValue 34 = .ok (.lookupswitch 87 #[(4, 42), (5, 53), (6, 68), (64, 79)], 42) := by decide +kernel
theorem dX5_readValue_76 : decode cX5_readValue 76 = .ok (.aload_n 0, 1) := by decide +kernel
theorem dX5_readValue_77 : decode cX5_readValue 77 = .ok (.aload_n 1, 1) := by decide +kernel
theorem dX5_readValue_78 : decode cX5_readValue 78 = .ok (.getfield 111, 3) := by decide +kernel
theorem dX5_readValue_81 : decode cX5_readValue 81 = .ok (.iload 4, 2) := by decide +kernel
theorem dX5_readValue_83 : decode cX5_readValue 83 = .ok (.invokevirtual 58, 3) := by decide +kernel
theorem dX5_readValue_86 : decode cX5_readValue 86 = .ok (.ireturn, 1) := by decide +kernel
theorem dX5_readValue_87 : decode cX5_readValue 87 = .ok (.iload 4, 2) := by decide +kernel
theorem dX5_readValue_89 : decode cX5_readValue 89 = .ok (.aload_n 0, 1) := by decide +kernel
theorem dX5_readValue_90 : decode cX5_readValue 90 = .ok (.getfield 24, 3) := by decide +kernel
theorem dX5_readValue_93 : decode cX5_readValue 93 = .ok (.if_icmp .ne 7, 3) := by decide +kernel
theorem dX5_readValue_96 : decode cX5_readValue 96 = .ok (.iconst 1, 1) := by decide +kernel
theorem dX5_readValue_97 : decode cX5_readValue 97 = .ok (.goto 4, 3) := by decide +kernel
theorem dX5_readValue_100 : decode cX5_readValue 100 = .ok (.iconst 0, 1) := by decide +kernel
theorem dX5_readValue_101 : decode cX5_readValue 101 = .ok (.ireturn, 1) := by decide +kernel
theorem dX5_readValue_102 : decode cX5_readValue 102 = .ok (.aload_n 0, 1) := by decide +kernel
theorem dX5_readValue_103 : decode cX5_readValue 103 = .ok (.aload_n 1, 1) := by decide +kernel
theorem dX5_readValue_104 : decode cX5_readValue 104 = .ok (.getfield 111, 3) := by decide +kernel
theorem dX5_readValue_107 : decode cX5_readValue 107 = .ok (.iload 4, 2) := by decide +kernel
theorem dX5_readValue_109 : decode cX5_readValue 109 = .ok (.invokevirtual 97, 3) := by decide +kernel
theorem dX5_readValue_112 : decode cX5_readValue 112 = .ok (.ireturn, 1) := by decide +kernel
theorem dX5_readValue_113 : decode cX5_readValue 113 = .ok (.aload_n 0, 1) := by decide +kernel
theorem dX5_readValue_114 : decode cX5_readValue 114 = .ok (.aload_n 1, 1) := by decide +kernel
theorem dX5_readValue_115 : decode cX5_readValue 115 = .ok (.iload 4, 2) := by decide +kernel
theorem dX5_readValue_117 : decode cX5_readValue 117 = .ok (.invokevirtual 114, 3) := by decide +kernel
theorem dX5_readValue_120 : decode cX5_readValue 120 = .ok (.ireturn, 1) := by decide +kernel
theorem dX5_readValue_121 : decode cX5_readValue 121 = .ok (.iload_n 3, 1) := by decide +kernel
theorem dX5_readValue_122 : decode cX5_readValue 122 = .ok (.invokestatic 117, 3) := by decide +kernel
theorem dX5_readValue_125 : decode cX5_readValue 125 = .ok (.ifCond .eq 18, 3) := by decide +kernel
theorem dX5_readValue_128 : decode cX5_readValue 128 = .ok (.aload_n 0, 1) := by decide +kernel
theorem dX5_readValue_129 : decode cX5_readValue 129 = .ok (.iload_n 3, 1) := by decide +kernel
theorem dX5_readValue_130 : decode cX5_readValue 130 = .ok (.iload 4, 2) := by decide +kernel
theorem dX5_readValue_132 : decode cX5_readValue 132 = .ok (.aload_n 1, 1) := by decide +kernel
theorem dX5_readValue_133 : decode cX5_readValue 133 = .ok (.invokevirtual 120, 3) := by decide +kernel
theorem dX5_readValue_136 : decode cX5_readValue 136 = .ok (.ifCond .eq 7, 3) := by decide +kernel
theorem dX5_readValue_139 : decode cX5_readValue 139 = .ok (.iconst 1, 1) := by decide +kernel
theorem dX5_readValue_140 : decode cX5_readValue 140 = .ok (.goto 4, 3) := by decide +kernel
theorem dX5_readValue_143 : decode cX5_readValue 143 = .ok (.iconst 0, 1) := by decide +kernel
theorem dX5_readValue_144 : decode cX5_readValue 144 = .ok (.ireturn, 1) := by decide +kernel
theorem dX5_readInteger_0 : decode cX5_readInteger 0 = .ok (.aload_n 0, 1) := by decide +kernel
theorem dX5_readInteger_1 : decode cX5_readInteger 1 = .ok (.iconst 2, 1) := by decide +kernel
theorem dX5_readInteger_2 : decode cX5_readInteger 2 = .ok (.aload_n 0, 1) := by decide +kernel
theorem dX5_readInteger_3 : decode cX5_readInteger 3 = .ok (.getfield 20, 3) := by decide +kernel
theorem dX5_readInteger_6 : decode cX5_readInteger 6 = .ok (.invokevirtual 45, 3) := by decide +kernel
theorem dX5_readInteger_9 : decode cX5_readInteger 9 = .ok (.invokevirtual 51, 3) := by decide +kernel
theorem dX5_readInteger_12 : decode cX5_readInteger 12 = .ok (.istore_n 1, 1) := by decide +kernel
theorem dX5_readInteger_13 : decode cX5_readInteger 13 = .ok (.iload_n 1, 1) := by decide +kernel
theorem dX5_readInteger_14 : decode cX5_readInteger 14 = .ok (.ifCond .lt 20, 3) := by decide +kernel
theorem dX5_readInteger_17 : decode cX5_readInteger 17 = .ok (.aload_n 0, 1) := by decide +kernel
theorem dX5_readInteger_18 : decode cX5_readInteger 18 = .ok (.iconst 2, 1) := by decide +kernel
theorem dX5_readInteger_19 : decode cX5_readInteger 19 = .ok (.iload_n 1, 1) := by decide +kernel
theorem dX5_readInteger_20 : decode cX5_readInteger 20 = .ok (.aload_n 0, 1) := by decide +kernel
theorem dX5_readInteger_21 : decode cX5_readInteger 21 = .ok (.getfield 14, 3) := by decide +kernel
theorem dX5_readInteger_24 : decode cX5_readInteger 24 = .ok (.invokevirtual 120, 3) := by decide +kernel
theorem dX5_readInteger_27 : decode cX5_readInteger 27 = .ok (.ifCond .eq 7, 3) := by decide +kernel
theorem dX5_readInteger_30 : decode cX5_readInteger 30 = .ok (.iconst 1, 1) := by decide +kernel
theorem dX5_readInteger_31 : decode cX5_readInteger 31 = .ok (.goto 4, 3) := by decide +kernel
theorem dX5_readInteger_34 : decode cX5_readInteger 34 = .ok (.iconst 0, 1) := by decide +kernel
theorem dX5_readInteger_35 : decode cX5_readInteger 35 = .ok (.ireturn, 1) := by decide +kernel
theorem dX5_enterLast_0 : decode cX5_enterLast 0 = .ok (.aload_n 0, 1) := by decide +kernel
theorem dX5_enterLast_1 : decode cX5_enterLast 1 = .ok (.iload_n 1, 1) := by decide +kernel
theorem dX5_enterLast_2 : decode cX5_enterLast 2 = .ok (.aload_n 0, 1) := by decide +kernel
theorem dX5_enterLast_3 : decode cX5_enterLast 3 = .ok (.getfield 20, 3) := by decide +kernel
theorem dX5_enterLast_6 : decode cX5_enterLast 6 = .ok (.invokevirtual 45, 3) := by decide +kernel
theorem dX5_enterLast_9 : decode cX5_enterLast 9 = .ok (.invokevirtual 51, 3) := by decide +kernel
theorem dX5_enterLast_12 : decode cX5_enterLast 12 = .ok (.aload_n 0, 1) := by decide +kernel
theorem dX5_enterLast_13 : decode cX5_enterLast 13 = .ok (.getfield 20, 3) := by decide +kernel
theorem dX5_enterLast_16 : decode cX5_enterLast 16 = .ok (.invokevirtual 45, 3) := by decide +kernel
theorem dX5_enterLast_19 : decode cX5_enterLast 19 = .ok (.if_icmp .ne 7, 3) := by decide +kernel
theorem dX5_enterLast_22 : decode cX5_enterLast 22 = .ok (.iconst 1, 1) := by decide +kernel
theorem dX5_enterLast_23 : decode cX5_enterLast 23 = .ok (.goto 4, 3) := by decide +kernel
theorem dX5_enterLast_26 : decode cX5_enterLast 26 = .ok (.iconst 0, 1) := by decide +kernel
theorem dX5_enterLast_27 : decode cX5_enterLast 27 = .ok (.ireturn, 1) := by decide +kernel
theorem dX5_enter_0 : decode cX5_enter 0 = .ok (.aload_n 0, 1) := by decide +kernel
theorem dX5_enter_1 : decode cX5_enter 1 = .ok (.getfield 24, 3) := by decide +kernel
theorem dX5_enter_4 : decode cX5_enter 4 = .ok (.iload_n 2, 1) := by decide +kernel
theorem dX5_enter_5 : decode cX5_enter 5 = .ok (.if_icmp .ge 20, 3) := by decide +kernel
theorem dX5_enter_8 : decode cX5_enter 8 = .ok (.aload_n 0, 1) := by decide +kernel
theorem dX5_enter_9 : decode cX5_enter 9 = .ok (.getfield 20, 3) := by decide +kernel
theorem dX5_enter_12 : decode cX5_enter 12 = .ok (.aload_n 0, 1) := by decide +kernel
theorem dX5_enter_13 : decode cX5_enter 13 = .ok (.getfield 24, 3) := by decide +kernel
theorem dX5_enter_16 : decode cX5_enter 16 = .ok (.invokevirtual 62, 3) := by decide +kernel
theorem dX5_enter_19 : decode cX5_enter 19 = .ok (.iload_n 1, 1) := by decide +kernel
theorem dX5_enter_20 : decode cX5_enter 20 = .ok (.i2l, 1) := by decide +kernel
theorem dX5_enter_21 : decode cX5_enter 21 = .ok (.lcmp, 1) := by decide +kernel
theorem dX5_enter_22 : decode cX5_enter 22 = .ok (.ifCond .eq 5, 3) := by decide +kernel
theorem dX5_enter_25 : decode cX5_enter 25 = .ok (.iconst (-1), 1) := by decide +kernel
theorem dX5_enter_26 : decode cX5_enter 26 = .ok (.ireturn, 1) := by decide +kernel
theorem dX5_enter_27 : decode cX5_enter 27 = .ok (.aload_n 0, 1) := by decide +kernel
theorem dX5_enter_28 : decode cX5_enter 28 = .ok (.dup, 1) := by decide +kernel
theorem dX5_enter_29 : decode cX5_enter 29 = .ok (.getfield 24, 3) := by decide +kernel
theorem dX5_enter_32 : decode cX5_enter 32 = .ok (.iconst 1, 1) := by decide +kernel
theorem dX5_enter_33 : decode cX5_enter 33 = .ok (.iadd, 1) := by decide +kernel
theorem dX5_enter_34 : decode cX5_enter 34 = .ok (.putfield 24, 3) := by decide +kernel
theorem dX5_enter_37 : decode cX5_enter 37 = .ok (.aload_n 0, 1) := by decide +kernel
theorem dX5_enter_38 : decode cX5_enter 38 = .ok (.iload_n 2, 1) := by decide +kernel
theorem dX5_enter_39 : decode cX5_enter 39 = .ok (.invokevirtual 124, 3) := by decide +kernel
theorem dX5_enter_42 : decode cX5_enter 42 = .ok (.lstore_n 3, 1) := by decide +kernel
theorem dX5_enter_43 : decode cX5_enter 43 = .ok (.lload_n 3, 1) := by decide +kernel
theorem dX5_enter_44 : decode cX5_enter 44 = .ok (.lconst 0, 1) := by decide +kernel
theorem dX5_enter_45 : decode cX5_enter 45 = .ok (.lcmp, 1) := by decide +kernel
theorem dX5_enter_46 : decode cX5_enter 46 = .ok (.ifCond .lt 15, 3) := by decide +kernel
theorem dX5_enter_49 : decode cX5_enter 49 = .ok (.lload_n 3, 1) := by decide +kernel
theorem dX5_enter_50 : decode cX5_enter 50 = .ok (.iload_n 2, 1) := by decide +kernel
theorem dX5_enter_51 : decode cX5_enter 51 = .ok (.aload_n 0, 1) := by decide +kernel
theorem dX5_enter_52 : decode cX5_enter 52 = .ok (.getfield 24, 3) := by decide +kernel
theorem dX5_enter_55 : decode cX5_enter 55 = .ok (.isub, 1) := by decide +kernel
theorem dX5_enter_56 : decode cX5_enter 56 = .ok (.i2l, 1) := by decide +kernel
theorem dX5_enter_57 : decode cX5_enter 57 = .ok (.lcmp, 1) := by decide +kernel
theorem dX5_enter_58 : decode cX5_enter 58 = .ok (.ifCond .le 7, 3) := by decide +kernel
theorem dX5_enter_61 : decode cX5_enter 61 = .ok (.iconst (-1), 1) := by decide +kernel
theorem dX5_enter_62 : decode cX5_enter 62 = .ok (.goto 10, 3) := by decide +kernel
theorem dX5_enter_65 : decode cX5_enter 65 = .ok (.aload_n 0, 1) := by decide +kernel
theorem dX5_enter_66 : decode cX5_enter 66 = .ok (.getfield 24, 3) := by decide +kernel
theorem dX5_enter_69 : decode cX5_enter 69 = .ok (.lload_n 3, 1) := by decide +kernel
theorem dX5_enter_70 : decode cX5_enter 70 = .ok (.l2i, 1) := by decide +kernel
theorem dX5_enter_71 : decode cX5_enter 71 = .ok (.iadd, 1) := by decide +kernel
theorem dX5_enter_72 : decode cX5_enter 72 = .ok (.ireturn, 1) := by decide +kernel
theorem dX5_readLength_0 : decode cX5_readLength 0 = .ok (.aload_n 0, 1) := by decide +kernel
theorem dX5_readLength_1 : decode cX5_readLength 1 = .ok (.getfield 24, 3) := by decide +kernel
theorem dX5_readLength_4 : decode cX5_readLength 4 = .ok (.iload_n 1, 1) := by decide +kernel
theorem dX5_readLength_5 : decode cX5_readLength 5 = .ok (.if_icmp .lt 7, 3) := by decide +kernel
theorem dX5_readLength_8 : decode cX5_readLength 8 = .ok (.ldc2_w 127, 3) := by decide +kernel
theorem dX5_readLength_11 : decode cX5_readLength 11 = .ok (.lreturn, 1) := by decide +kernel
theorem dX5_readLength_12 : decode cX5_readLength 12 = .ok (.aload_n 0, 1) := by decide +kernel
theorem dX5_readLength_13 : decode cX5_readLength 13 = .ok (.getfield 20, 3) := by decide +kernel
theorem dX5_readLength_16 : decode cX5_readLength 16 = .ok (.aload_n 0, 1) := by decide +kernel
theorem dX5_readLength_17 : decode cX5_readLength 17 = .ok (.getfield 24, 3) := by decide +kernel
theorem dX5_readLength_20 : decode cX5_readLength 20 = .ok (.invokevirtual 62, 3) := by decide +kernel
theorem dX5_readLength_23 : decode cX5_readLength 23 = .ok (.lstore_n 2, 1) := by decide +kernel
theorem dX5_readLength_24 : decode cX5_readLength 24 = .ok (.aload_n 0, 1) := by decide +kernel
theorem dX5_readLength_25 : decode cX5_readLength 25 = .ok (.dup, 1) := by decide +kernel
theorem dX5_readLength_26 : decode cX5_readLength 26 = .ok (.getfield 24, 3) := by decide +kernel
theorem dX5_readLength_29 : decode cX5_readLength 29 = .ok (.iconst 1, 1) := by decide +kernel
theorem dX5_readLength_30 : decode cX5_readLength 30 = .ok (.iadd, 1) := by decide +kernel
theorem dX5_readLength_31 : decode cX5_readLength 31 = .ok (.putfield 24, 3) := by decide +kernel
theorem dX5_readLength_34 : decode cX5_readLength 34 = .ok (.lload_n 2, 1) := by decide +kernel
theorem dX5_readLength_35 : decode cX5_readLength 35 = .ok (.ldc2_w 129, 3) := by decide +kernel
theorem dX5_readLength_38 : decode cX5_readLength 38 = .ok (.lcmp, 1) := by decide +kernel
theorem dX5_readLength_39 : decode cX5_readLength 39 = .ok (.ifCond .ge 5, 3) := by decide +kernel
theorem dX5_readLength_42 : decode cX5_readLength 42 = .ok (.lload_n 2, 1) := by decide +kernel
theorem dX5_readLength_43 : decode cX5_readLength 43 = .ok (.lreturn, 1) := by decide +kernel
theorem dX5_readLength_44 : decode cX5_readLength 44 = .ok (.lload_n 2, 1) := by decide +kernel
theorem dX5_readLength_45 : decode cX5_readLength 45 = .ok (.ldc2_w 131, 3) := by decide +kernel
theorem dX5_readLength_48 : decode cX5_readLength 48 = .ok (.lcmp, 1) := by decide +kernel
theorem dX5_readLength_49 : decode cX5_readLength 49 = .ok (.ifCond .lt 27, 3) := by decide +kernel
theorem dX5_readLength_52 : decode cX5_readLength 52 = .ok (.lload_n 2, 1) := by decide +kernel
theorem dX5_readLength_53 : decode cX5_readLength 53 = .ok (.ldc2_w 133, 3) := by decide +kernel
theorem dX5_readLength_56 : decode cX5_readLength 56 = .ok (.lcmp, 1) := by decide +kernel
theorem dX5_readLength_57 : decode cX5_readLength 57 = .ok (.ifCond .gt 19, 3) := by decide +kernel
theorem dX5_readLength_60 : decode cX5_readLength 60 = .ok (.lload_n 2, 1) := by decide +kernel
theorem dX5_readLength_61 : decode cX5_readLength 61 = .ok (.ldc2_w 129, 3) := by decide +kernel
theorem dX5_readLength_64 : decode cX5_readLength 64 = .ok (.lsub, 1) := by decide +kernel
theorem dX5_readLength_65 : decode cX5_readLength 65 = .ok (.iload_n 1, 1) := by decide +kernel
theorem dX5_readLength_66 : decode cX5_readLength 66 = .ok (.aload_n 0, 1) := by decide +kernel
theorem dX5_readLength_67 : decode cX5_readLength 67 = .ok (.getfield 24, 3) := by decide +kernel
theorem dX5_readLength_70 : decode cX5_readLength 70 = .ok (.isub, 1) := by decide +kernel
theorem dX5_readLength_71 : decode cX5_readLength 71 = .ok (.i2l, 1) := by decide +kernel
theorem dX5_readLength_72 : decode cX5_readLength 72 = .ok (.lcmp, 1) := by decide +kernel
theorem dX5_readLength_73 : decode cX5_readLength 73 = .ok (.ifCond .le 7, 3) := by decide +kernel
theorem dX5_readLength_76 : decode cX5_readLength 76 = .ok (.ldc2_w 127, 3) := by decide +kernel
theorem dX5_readLength_79 : decode cX5_readLength 79 = .ok (.lreturn, 1) := by decide +kernel
theorem dX5_readLength_80 : decode cX5_readLength 80 = .ok (.lconst 0, 1) := by decide +kernel
theorem dX5_readLength_81 : decode cX5_readLength 81 = .ok (.lstore 4, 2) := by decide +kernel
theorem dX5_readLength_83 : decode cX5_readLength 83 = .ok (.lload_n 2, 1) := by decide +kernel
theorem dX5_readLength_84 : decode cX5_readLength 84 = .ok (.l2i, 1) := by decide +kernel
theorem dX5_readLength_85 : decode cX5_readLength 85 = .ok (.sipush 128, 3) := by decide +kernel
theorem dX5_readLength_88 : decode cX5_readLength 88 = .ok (.isub, 1) := by decide +kernel
theorem dX5_readLength_89 : decode cX5_readLength 89 = .ok (.istore 6, 2) := by decide +kernel
theorem dX5_readLength_91 : decode cX5_readLength 91 = .ok (.iload 6, 2) := by decide +kernel
theorem dX5_readLength_93 : decode cX5_readLength 93 = .ok (.ifCond .le 38, 3) := by decide +kernel
theorem dX5_readLength_96 : decode cX5_readLength 96 = .ok (.lload 4, 2) := by decide +kernel
theorem dX5_readLength_98 : decode cX5_readLength 98 = .ok (.bipush 8, 2) := by decide +kernel
theorem dX5_readLength_100 : decode cX5_readLength 100 = .ok (.lshl, 1) := by decide +kernel
theorem dX5_readLength_101 : decode cX5_readLength 101 = .ok (.aload_n 0, 1) := by decide +kernel
theorem dX5_readLength_102 : decode cX5_readLength 102 = .ok (.getfield 20, 3) := by decide +kernel
theorem dX5_readLength_105 : decode cX5_readLength 105 = .ok (.aload_n 0, 1) := by decide +kernel
theorem dX5_readLength_106 : decode cX5_readLength 106 = .ok (.getfield 24, 3) := by decide +kernel
theorem dX5_readLength_109 : decode cX5_readLength 109 = .ok (.invokevirtual 62, 3) := by decide +kernel
theorem dX5_readLength_112 : decode cX5_readLength 112 = .ok (.lor, 1) := by decide +kernel
theorem dX5_readLength_113 : decode cX5_readLength 113 = .ok (.lstore 4, 2) := by decide +kernel
theorem dX5_readLength_115 : decode cX5_readLength 115 = .ok (.aload_n 0, 1) := by decide +kernel
theorem dX5_readLength_116 : decode cX5_readLength 116 = .ok (.dup, 1) := by decide +kernel
theorem dX5_readLength_117 : decode cX5_readLength 117 = .ok (.getfield 24, 3) := by decide +kernel
theorem dX5_readLength_120 : decode cX5_readLength 120 = .ok (.iconst 1, 1) := by decide +kernel
theorem dX5_readLength_121 : decode cX5_readLength 121 = .ok (.iadd, 1) := by decide +kernel
theorem dX5_readLength_122 : decode cX5_readLength 122 = .ok (.putfield 24, 3) := by decide +kernel
theorem dX5_readLength_125 : decode cX5_readLength 125 = .ok (.iinc 6 (-1), 3) := by decide +kernel
theorem dX5_readLength_128 : decode cX5_readLength 128 = .ok (.goto (-37), 3) := by decide +kernel
theorem dX5_readLength_131 : decode cX5_readLength 131 = .ok (.lload 4, 2) := by decide +kernel
theorem dX5_readLength_133 : decode cX5_readLength 133 = .ok (.lreturn, 1) := by decide +kernel
theorem dX5_takeNumber_0 : decode cX5_takeNumber 0 = .ok (.iload_n 2, 1) := by decide +kernel
theorem dX5_takeNumber_1 : decode cX5_takeNumber 1 = .ok (.aload_n 0, 1) := by decide +kernel
theorem dX5_takeNumber_2 : decode cX5_takeNumber 2 = .ok (.getfield 24, 3) := by decide +kernel
theorem dX5_takeNumber_5 : decode cX5_takeNumber 5 = .ok (.isub, 1) := by decide +kernel
theorem dX5_takeNumber_6 : decode cX5_takeNumber 6 = .ok (.istore 4, 2) := by decide +kernel
theorem dX5_takeNumber_8 : decode cX5_takeNumber 8 = .ok (.iload 4, 2) := by decide +kernel
theorem dX5_takeNumber_10 : decode cX5_takeNumber 10 = .ok (.iconst 1, 1) := by decide +kernel
theorem dX5_takeNumber_11 : decode cX5_takeNumber 11 = .ok (.if_icmp .lt 10, 3) := by decide +kernel
theorem dX5_takeNumber_14 : decode cX5_takeNumber 14 = .ok (.iload 4, 2) := by decide +kernel
theorem dX5_takeNumber_16 : decode cX5_takeNumber 16 = .ok (.bipush 9, 2) := by decide +kernel
theorem dX5_takeNumber_18 : decode cX5_takeNumber 18 = .ok (.if_icmp .le 5, 3) := by decide +kernel
theorem dX5_takeNumber_21 : decode cX5_takeNumber 21 = .ok (.iconst 0, 1) := by decide +kernel
theorem dX5_takeNumber_22 : decode cX5_takeNumber 22 = .ok (.ireturn, 1) := by decide +kernel
theorem dX5_takeNumber_23 : decode cX5_takeNumber 23 = .ok (.aload_n 0, 1) := by decide +kernel
theorem dX5_takeNumber_24 : decode cX5_takeNumber 24 = .ok (.getfield 20, 3) := by decide +kernel
theorem dX5_takeNumber_27 : decode cX5_takeNumber 27 = .ok (.aload_n 0, 1) := by decide +kernel
theorem dX5_takeNumber_28 : decode cX5_takeNumber 28 = .ok (.getfield 24, 3) := by decide +kernel
theorem dX5_takeNumber_31 : decode cX5_takeNumber 31 = .ok (.invokevirtual 62, 3) := by decide +kernel
theorem dX5_takeNumber_34 : decode cX5_takeNumber 34 = .ok (.lstore 5, 2) := by decide +kernel
theorem dX5_takeNumber_36 : decode cX5_takeNumber 36 = .ok (.lload 5, 2) := by decide +kernel
theorem dX5_takeNumber_38 : decode cX5_takeNumber 38 = .ok (.ldc2_w 129, 3) := by decide +kernel
theorem dX5_takeNumber_41 : decode cX5_takeNumber 41 = .ok (.lcmp, 1) := by decide +kernel
theorem dX5_takeNumber_42 : decode cX5_takeNumber 42 = .ok (.ifCond .lt 9, 3) := by decide +kernel
theorem dX5_takeNumber_45 : decode cX5_takeNumber 45 = .ok (.ldc2_w 127, 3) := by decide +kernel
theorem dX5_takeNumber_48 : decode cX5_takeNumber 48 = .ok (.goto 4, 3) := by decide +kernel
theorem dX5_takeNumber_51 : decode cX5_takeNumber 51 = .ok (.lconst 0, 1) := by decide +kernel
theorem dX5_takeNumber_52 : decode cX5_takeNumber 52 = .ok (.lstore 7, 2) := by decide +kernel
theorem dX5_takeNumber_54 : decode cX5_takeNumber 54 = .ok (.lload 7, 2) := by decide +kernel
theorem dX5_takeNumber_56 : decode cX5_takeNumber 56 = .ok (.lstore 9, 2) := by decide +kernel
theorem dX5_takeNumber_58 : decode cX5_takeNumber 58 = .ok (.aload_n 0, 1) := by decide +kernel
theorem dX5_takeNumber_59 : decode cX5_takeNumber 59 = .ok (.getfield 24, 3) := by decide +kernel
theorem dX5_takeNumber_62 : decode cX5_takeNumber 62 = .ok (.iload_n 2, 1) := by decide +kernel
theorem dX5_takeNumber_63 : decode cX5_takeNumber 63 = .ok (.if_icmp .ge 35, 3) := by decide +kernel
theorem dX5_takeNumber_66 : decode cX5_takeNumber 66 = .ok (.lload 9, 2) := by decide +kernel
theorem dX5_takeNumber_68 : decode cX5_takeNumber 68 = .ok (.bipush 8, 2) := by decide +kernel
theorem dX5_takeNumber_70 : decode cX5_takeNumber 70 = .ok (.lshl, 1) := by decide +kernel
theorem dX5_takeNumber_71 : decode cX5_takeNumber 71 = .ok (.aload_n 0, 1) := by decide +kernel
theorem dX5_takeNumber_72 : decode cX5_takeNumber 72 = .ok (.getfield 20, 3) := by decide +kernel
theorem dX5_takeNumber_75 : decode cX5_takeNumber 75 = .ok (.aload_n 0, 1) := by decide +kernel
theorem dX5_takeNumber_76 : decode cX5_takeNumber 76 = .ok (.getfield 24, 3) := by decide +kernel
theorem dX5_takeNumber_79 : decode cX5_takeNumber 79 = .ok (.invokevirtual 62, 3) := by decide +kernel
theorem dX5_takeNumber_82 : decode cX5_takeNumber 82 = .ok (.lor, 1) := by decide +kernel
theorem dX5_takeNumber_83 : decode cX5_takeNumber 83 = .ok (.lstore 9, 2) := by decide +kernel
theorem dX5_takeNumber_85 : decode cX5_takeNumber 85 = .ok (.aload_n 0, 1) := by decide +kernel
theorem dX5_takeNumber_86 : decode cX5_takeNumber 86 = .ok (.dup, 1) := by decide +kernel
theorem dX5_takeNumber_87 : decode cX5_takeNumber 87 = .ok (.getfield 24, 3) := by decide +kernel
theorem dX5_takeNumber_90 : decode cX5_takeNumber 90 = .ok (.iconst 1, 1) := by decide +kernel
theorem dX5_takeNumber_91 : decode cX5_takeNumber 91 = .ok (.iadd, 1) := by decide +kernel
theorem dX5_takeNumber_92 : decode cX5_takeNumber 92 = .ok (.putfield 24, 3) := by decide +kernel
theorem dX5_takeNumber_95 : decode cX5_takeNumber 95 = .ok (.goto (-37), 3) := by decide +kernel
theorem dX5_takeNumber_98 : decode cX5_takeNumber 98 = .ok (.aload_n 3, 1) := by decide +kernel
theorem dX5_takeNumber_99 : decode cX5_takeNumber 99 = .ok (.lload 9, 2) := by decide +kernel
theorem dX5_takeNumber_101 : decode cX5_takeNumber 101 = .ok (.putfield 36, 3) := by decide +kernel
theorem dX5_takeNumber_104 : decode cX5_takeNumber 104 = .ok (.iload 4, 2) := by decide +kernel
theorem dX5_takeNumber_106 : decode cX5_takeNumber 106 = .ok (.bipush 9, 2) := by decide +kernel
theorem dX5_takeNumber_108 : decode cX5_takeNumber 108 = .ok (.if_icmp .ne 17, 3) := by decide +kernel
theorem dX5_takeNumber_111 : decode cX5_takeNumber 111 = .ok (.lload 5, 2) := by decide +kernel
theorem dX5_takeNumber_113 : decode cX5_takeNumber 113 = .ok (.lload 7, 2) := by decide +kernel
theorem dX5_takeNumber_115 : decode cX5_takeNumber 115 = .ok (.ldc2_w 135, 3) := by decide +kernel
theorem dX5_takeNumber_118 : decode cX5_takeNumber 118 = .ok (.land, 1) := by decide +kernel
theorem dX5_takeNumber_119 : decode cX5_takeNumber 119 = .ok (.lcmp, 1) := by decide +kernel
theorem dX5_takeNumber_120 : decode cX5_takeNumber 120 = .ok (.ifCond .eq 5, 3) := by decide +kernel
theorem dX5_takeNumber_123 : decode cX5_takeNumber 123 = .ok (.iconst 0, 1) := by decide +kernel
theorem dX5_takeNumber_124 : decode cX5_takeNumber 124 = .ok (.ireturn, 1) := by decide +kernel
theorem dX5_takeNumber_125 : decode cX5_takeNumber 125 = .ok (.iload_n 1, 1) := by decide +kernel
theorem dX5_takeNumber_126 : decode cX5_takeNumber 126 = .ok (.bipush 70, 2) := by decide +kernel
theorem dX5_takeNumber_128 : decode cX5_takeNumber 128 = .ok (.if_icmp .ne 16, 3) := by decide +kernel
theorem dX5_takeNumber_131 : decode cX5_takeNumber 131 = .ok (.lload 7, 2) := by decide +kernel
theorem dX5_takeNumber_133 : decode cX5_takeNumber 133 = .ok (.lconst 0, 1) := by decide +kernel
theorem dX5_takeNumber_134 : decode cX5_takeNumber 134 = .ok (.lcmp, 1) := by decide +kernel
theorem dX5_takeNumber_135 : decode cX5_takeNumber 135 = .ok (.ifCond .ne 7, 3) := by decide +kernel
theorem dX5_takeNumber_138 : decode cX5_takeNumber 138 = .ok (.iconst 1, 1) := by decide +kernel
theorem dX5_takeNumber_139 : decode cX5_takeNumber 139 = .ok (.goto 4, 3) := by decide +kernel
theorem dX5_takeNumber_142 : decode cX5_takeNumber 142 = .ok (.iconst 0, 1) := by decide +kernel
theorem dX5_takeNumber_143 : decode cX5_takeNumber 143 = .ok (.ireturn, 1) := by decide +kernel
theorem dX5_takeNumber_144 : decode cX5_takeNumber 144 = .ok (.lload 9, 2) := by decide +kernel
theorem dX5_takeNumber_146 : decode cX5_takeNumber 146 = .ok (.lconst 0, 1) := by decide +kernel
theorem dX5_takeNumber_147 : decode cX5_takeNumber 147 = .ok (.lcmp, 1) := by decide +kernel
theorem dX5_takeNumber_148 : decode cX5_takeNumber 148 = .ok (.ifCond .ge 7, 3) := by decide +kernel
theorem dX5_takeNumber_151 : decode cX5_takeNumber 151 = .ok (.iconst 1, 1) := by decide +kernel
theorem dX5_takeNumber_152 : decode cX5_takeNumber 152 = .ok (.goto 4, 3) := by decide +kernel
theorem dX5_takeNumber_155 : decode cX5_takeNumber 155 = .ok (.iconst 0, 1) := by decide +kernel
theorem dX5_takeNumber_156 : decode cX5_takeNumber 156 = .ok (.lload 7, 2) := by decide +kernel
theorem dX5_takeNumber_158 : decode cX5_takeNumber 158 = .ok (.lconst 0, 1) := by decide +kernel
theorem dX5_takeNumber_159 : decode cX5_takeNumber 159 = .ok (.lcmp, 1) := by decide +kernel
theorem dX5_takeNumber_160 : decode cX5_takeNumber 160 = .ok (.ifCond .ge 7, 3) := by decide +kernel
theorem dX5_takeNumber_163 : decode cX5_takeNumber 163 = .ok (.iconst 1, 1) := by decide +kernel
theorem dX5_takeNumber_164 : decode cX5_takeNumber 164 = .ok (.goto 4, 3) := by decide +kernel
theorem dX5_takeNumber_167 : decode cX5_takeNumber 167 = .ok (.iconst 0, 1) := by decide +kernel
theorem dX5_takeNumber_168 : decode cX5_takeNumber 168 = .ok (.if_icmp .ne 16, 3) := by decide +kernel
theorem dX5_takeNumber_171 : decode cX5_takeNumber 171 = .ok (.iload_n 1, 1) := by decide +kernel
theorem dX5_takeNumber_172 : decode cX5_takeNumber 172 = .ok (.lload 9, 2) := by decide +kernel
theorem dX5_takeNumber_174 : decode cX5_takeNumber 174 = .ok (.invokestatic 137, 3) := by decide +kernel
theorem dX5_takeNumber_177 : decode cX5_takeNumber 177 = .ok (.ifCond .eq 7, 3) := by decide +kernel
theorem dX5_takeNumber_180 : decode cX5_takeNumber 180 = .ok (.iconst 1, 1) := by decide +kernel
theorem dX5_takeNumber_181 : decode cX5_takeNumber 181 = .ok (.goto 4, 3) := by decide +kernel
theorem dX5_takeNumber_184 : decode cX5_takeNumber 184 = .ok (.iconst 0, 1) := by decide +kernel
theorem dX5_takeNumber_185 : decode cX5_takeNumber 185 = .ok (.ireturn, 1) := by decide +kernel
theorem dX5_takeAddress_0 : decode cX5_takeAddress 0 = .ok (.iload_n 2, 1) := by decide +kernel
theorem dX5_takeAddress_1 : decode cX5_takeAddress 1 = .ok (.aload_n 0, 1) := by decide +kernel
theorem dX5_takeAddress_2 : decode cX5_takeAddress 2 = .ok (.getfield 24, 3) := by decide +kernel
theorem dX5_takeAddress_5 : decode cX5_takeAddress 5 = .ok (.isub, 1) := by decide +kernel
theorem dX5_takeAddress_6 : decode cX5_takeAddress 6 = .ok (.iconst 4, 1) := by decide +kernel
theorem dX5_takeAddress_7 : decode cX5_takeAddress 7 = .ok (.if_icmp .eq 5, 3) := by decide +kernel
theorem dX5_takeAddress_10 : decode cX5_takeAddress 10 = .ok (.iconst 0, 1) := by decide +kernel
theorem dX5_takeAddress_11 : decode cX5_takeAddress 11 = .ok (.ireturn, 1) := by decide +kernel
theorem dX5_takeAddress_12 : decode cX5_takeAddress 12 = .ok (.aload_n 0, 1) := by decide +kernel
theorem dX5_takeAddress_13 : decode cX5_takeAddress 13 = .ok (.getfield 24, 3) := by decide +kernel
theorem dX5_takeAddress_16 : decode cX5_takeAddress 16 = .ok (.iload_n 2, 1) := by decide +kernel
theorem dX5_takeAddress_17 : decode cX5_takeAddress 17 = .ok (.if_icmp .ge 39, 3) := by decide +kernel
theorem dX5_takeAddress_20 : decode cX5_takeAddress 20 = .ok (.aload_n 1, 1) := by decide +kernel
theorem dX5_takeAddress_21 : decode cX5_takeAddress 21 = .ok (.aload_n 1, 1) := by decide +kernel
theorem dX5_takeAddress_22 : decode cX5_takeAddress 22 = .ok (.getfield 36, 3) := by decide +kernel
theorem dX5_takeAddress_25 : decode cX5_takeAddress 25 = .ok (.bipush 8, 2) := by decide +kernel
theorem dX5_takeAddress_27 : decode cX5_takeAddress 27 = .ok (.lshl, 1) := by decide +kernel
theorem dX5_takeAddress_28 : decode cX5_takeAddress 28 = .ok (.aload_n 0, 1) := by decide +kernel
theorem dX5_takeAddress_29 : decode cX5_takeAddress 29 = .ok (.getfield 20, 3) := by decide +kernel
theorem dX5_takeAddress_32 : decode cX5_takeAddress 32 = .ok (.aload_n 0, 1) := by decide +kernel
theorem dX5_takeAddress_33 : decode cX5_takeAddress 33 = .ok (.getfield 24, 3) := by decide +kernel
theorem dX5_takeAddress_36 : decode cX5_takeAddress 36 = .ok (.invokevirtual 62, 3) := by decide +kernel
theorem dX5_takeAddress_39 : decode cX5_takeAddress 39 = .ok (.lor, 1) := by decide +kernel
theorem dX5_takeAddress_40 : decode cX5_takeAddress 40 = .ok (.putfield 36, 3) := by decide +kernel
theorem dX5_takeAddress_43 : decode cX5_takeAddress 43 = .ok (.aload_n 0, 1) := by decide +kernel
theorem dX5_takeAddress_44 : decode cX5_takeAddress 44 = .ok (.dup, 1) := by decide +kernel
theorem dX5_takeAddress_45 : decode cX5_takeAddress 45 = .ok (.getfield 24, 3) := by decide +kernel
theorem dX5_takeAddress_48 : decode cX5_takeAddress 48 = .ok (.iconst 1, 1) := by decide +kernel
theorem dX5_takeAddress_49 : decode cX5_takeAddress 49 = .ok (.iadd, 1) := by decide +kernel
theorem dX5_takeAddress_50 : decode cX5_takeAddress 50 = .ok (.putfield 24, 3) := by decide +kernel
theorem dX5_takeAddress_53 : decode cX5_takeAddress 53 = .ok (.goto (-41), 3) := by decide +kernel
theorem dX5_takeAddress_56 : decode cX5_takeAddress 56 = .ok (.iconst 1, 1) := by decide +kernel
theorem dX5_takeAddress_57 : decode cX5_takeAddress 57 = .ok (.ireturn, 1) := by decide +kernel
theorem dX5_takeText_0 : decode cX5_takeText 0 = .ok (.aload_n 1, 1) := by decide +kernel
theorem dX5_takeText_1 : decode cX5_takeText 1 = .ok (.invokevirtual 141, 3) := by decide +kernel
theorem dX5_takeText_4 : decode cX5_takeText 4 = .ok (.iload_n 2, 1) := by decide +kernel
theorem dX5_takeText_5 : decode cX5_takeText 5 = .ok (.aload_n 0, 1) := by decide +kernel
theorem dX5_takeText_6 : decode cX5_takeText 6 = .ok (.getfield 24, 3) := by decide +kernel
theorem dX5_takeText_9 : decode cX5_takeText 9 = .ok (.isub, 1) := by decide +kernel
theorem dX5_takeText_10 : decode cX5_takeText 10 = .ok (.bipush 40, 2) := by decide +kernel
theorem dX5_takeText_12 : decode cX5_takeText 12 = .ok (.if_icmp .le 5, 3) := by decide +kernel
theorem dX5_takeText_15 : decode cX5_takeText 15 = .ok (.iconst 0, 1) := by decide +kernel
theorem dX5_takeText_16 : decode cX5_takeText 16 = .ok (.ireturn, 1) := by decide +kernel
theorem dX5_takeText_17 : decode cX5_takeText 17 = .ok (.aload_n 0, 1) := by decide +kernel
theorem dX5_takeText_18 : decode cX5_takeText 18 = .ok (.getfield 24, 3) := by decide +kernel
theorem dX5_takeText_21 : decode cX5_takeText 21 = .ok (.iload_n 2, 1) := by decide +kernel
theorem dX5_takeText_22 : decode cX5_takeText 22 = .ok (.if_icmp .ge 32, 3) := by decide +kernel
theorem dX5_takeText_25 : decode cX5_takeText 25 = .ok (.aload_n 1, 1) := by decide +kernel
theorem dX5_takeText_26 : decode cX5_takeText 26 = .ok (.aload_n 0, 1) := by decide +kernel
theorem dX5_takeText_27 : decode cX5_takeText 27 = .ok (.getfield 20, 3) := by decide +kernel
theorem dX5_takeText_30 : decode cX5_takeText 30 = .ok (.aload_n 0, 1) := by decide +kernel
theorem dX5_takeText_31 : decode cX5_takeText 31 = .ok (.getfield 24, 3) := by decide +kernel
theorem dX5_takeText_34 : decode cX5_takeText 34 = .ok (.invokevirtual 62, 3) := by decide +kernel
theorem dX5_takeText_37 : decode cX5_takeText 37 = .ok (.invokevirtual 144, 3) := by decide +kernel
theorem dX5_takeText_40 : decode cX5_takeText 40 = .ok (.pop, 1) := by decide +kernel
theorem dX5_takeText_41 : decode cX5_takeText 41 = .ok (.aload_n 0, 1) := by decide +kernel
theorem dX5_takeText_42 : decode cX5_takeText 42 = .ok (.dup, 1) := by decide +kernel
theorem dX5_takeText_43 : decode cX5_takeText 43 = .ok (.getfield 24, 3) := by decide +kernel
theorem dX5_takeText_46 : decode cX5_takeText 46 = .ok (.iconst 1, 1) := by decide +kernel
theorem dX5_takeText_47 : decode cX5_takeText 47 = .ok (.iadd, 1) := by decide +kernel
theorem dX5_takeText_48 : decode cX5_takeText 48 = .ok (.putfield 24, 3) := by decide +kernel
theorem dX5_takeText_51 : decode cX5_takeText 51 = .ok (.goto (-34), 3) := by decide +kernel
theorem dX5_takeText_54 : decode cX5_takeText 54 = .ok (.iconst 1, 1) := by decide +kernel
theorem dX5_takeText_55 : decode cX5_takeText 55 = .ok (.ireturn, 1) := by decide +kernel
theorem dX5_takeName_0 : decode cX5_takeName 0 = .ok (.aload_n 1, 1) := by decide +kernel
theorem dX5_takeName_1 : decode cX5_takeName 1 = .ok (.invokevirtual 141, 3) := by decide +kernel
theorem dX5_takeName_4 : decode cX5_takeName 4 = .ok (.lconst 0, 1) := by decide +kernel
theorem dX5_takeName_5 : decode cX5_takeName 5 = .ok (.lstore_n 3, 1) := by decide +kernel
theorem dX5_takeName_6 : decode cX5_takeName 6 = .ok (.iconst 0, 1) := by decide +kernel
theorem dX5_takeName_7 : decode cX5_takeName 7 = .ok (.istore 5, 2) := by decide +kernel
theorem dX5_takeName_9 : decode cX5_takeName 9 = .ok (.aload_n 0, 1) := by decide +kernel
theorem dX5_takeName_10 : decode cX5_takeName 10 = .ok (.getfield 24, 3) := by decide +kernel
theorem dX5_takeName_13 : decode cX5_takeName 13 = .ok (.iload_n 2, 1) := by decide +kernel
theorem dX5_takeName_14 : decode cX5_takeName 14 = .ok (.if_icmp .ge 107, 3) := by decide +kernel
theorem dX5_takeName_17 : decode cX5_takeName 17 = .ok (.aload_n 0, 1) := by decide +kernel
theorem dX5_takeName_18 : decode cX5_takeName 18 = .ok (.getfield 20, 3) := by decide +kernel
theorem dX5_takeName_21 : decode cX5_takeName 21 = .ok (.aload_n 0, 1) := by decide +kernel
theorem dX5_takeName_22 : decode cX5_takeName 22 = .ok (.getfield 24, 3) := by decide +kernel
theorem dX5_takeName_25 : decode cX5_takeName 25 = .ok (.invokevirtual 62, 3) := by decide +kernel
theorem dX5_takeName_28 : decode cX5_takeName 28 = .ok (.lstore 6, 2) := by decide +kernel
theorem dX5_takeName_30 : decode cX5_takeName 30 = .ok (.aload_n 0, 1) := by decide +kernel
theorem dX5_takeName_31 : decode cX5_takeName 31 = .ok (.dup, 1) := by decide +kernel
theorem dX5_takeName_32 : decode cX5_takeName 32 = .ok (.getfield 24, 3) := by decide +kernel
theorem dX5_takeName_35 : decode cX5_takeName 35 = .ok (.iconst 1, 1) := by decide +kernel
theorem dX5_takeName_36 : decode cX5_takeName 36 = .ok (.iadd, 1) := by decide +kernel
theorem dX5_takeName_37 : decode cX5_takeName 37 = .ok (.putfield 24, 3) := by decide +kernel
theorem dX5_takeName_40 : decode cX5_takeName 40 = .ok (.lload_n 3, 1) := by decide +kernel
theorem dX5_takeName_41 : decode cX5_takeName 41 = .ok (.bipush 7, 2) := by decide +kernel
theorem dX5_takeName_43 : decode cX5_takeName 43 = .ok (.lshl, 1) := by decide +kernel
theorem dX5_takeName_44 : decode cX5_takeName 44 = .ok (.lload 6, 2) := by decide +kernel
theorem dX5_takeName_46 : decode cX5_takeName 46 = .ok (.ldc2_w 148, 3) := by decide +kernel
theorem dX5_takeName_49 : decode cX5_takeName 49 = .ok (.land, 1) := by decide +kernel
theorem dX5_takeName_50 : decode cX5_takeName 50 = .ok (.lor, 1) := by decide +kernel
theorem dX5_takeName_51 : decode cX5_takeName 51 = .ok (.lstore_n 3, 1) := by decide +kernel
theorem dX5_takeName_52 : decode cX5_takeName 52 = .ok (.iload 5, 2) := by decide +kernel
theorem dX5_takeName_54 : decode cX5_takeName 54 = .ok (.ifCond .ne 12, 3) := by decide +kernel
theorem dX5_takeName_57 : decode cX5_takeName 57 = .ok (.lload 6, 2) := by decide +kernel
theorem dX5_takeName_59 : decode cX5_takeName 59 = .ok (.ldc2_w 129, 3) := by decide +kernel
theorem dX5_takeName_62 : decode cX5_takeName 62 = .ok (.lcmp, 1) := by decide +kernel
theorem dX5_takeName_63 : decode cX5_takeName 63 = .ok (.ifCond .eq 11, 3) := by decide +kernel
theorem dX5_takeName_66 : decode cX5_takeName 66 = .ok (.lload_n 3, 1) := by decide +kernel
theorem dX5_takeName_67 : decode cX5_takeName 67 = .ok (.ldc2_w 150, 3) := by decide +kernel
theorem dX5_takeName_70 : decode cX5_takeName 70 = .ok (.lcmp, 1) := by decide +kernel
theorem dX5_takeName_71 : decode cX5_takeName 71 = .ok (.ifCond .le 5, 3) := by decide +kernel
theorem dX5_takeName_74 : decode cX5_takeName 74 = .ok (.iconst 0, 1) := by decide +kernel
theorem dX5_takeName_75 : decode cX5_takeName 75 = .ok (.ireturn, 1) := by decide +kernel
theorem dX5_takeName_76 : decode cX5_takeName 76 = .ok (.lload 6, 2) := by decide +kernel
theorem dX5_takeName_78 : decode cX5_takeName 78 = .ok (.ldc2_w 129, 3) := by decide +kernel
theorem dX5_takeName_81 : decode cX5_takeName 81 = .ok (.lcmp, 1) := by decide +kernel
theorem dX5_takeName_82 : decode cX5_takeName 82 = .ok (.ifCond .lt 7, 3) := by decide +kernel
theorem dX5_takeName_85 : decode cX5_takeName 85 = .ok (.iconst 1, 1) := by decide +kernel
theorem dX5_takeName_86 : decode cX5_takeName 86 = .ok (.goto 4, 3) := by decide +kernel
theorem dX5_takeName_89 : decode cX5_takeName 89 = .ok (.iconst 0, 1) := by decide +kernel
theorem dX5_takeName_90 : decode cX5_takeName 90 = .ok (.istore 5, 2) := by decide +kernel
theorem dX5_takeName_92 : decode cX5_takeName 92 = .ok (.iload 5, 2) := by decide +kernel
theorem dX5_takeName_94 : decode cX5_takeName 94 = .ok (.ifCond .ne 13, 3) := by decide +kernel
theorem dX5_takeName_97 : decode cX5_takeName 97 = .ok (.aload_n 1, 1) := by decide +kernel
theorem dX5_takeName_98 : decode cX5_takeName 98 = .ok (.lload_n 3, 1) := by decide +kernel
theorem dX5_takeName_99 : decode cX5_takeName 99 = .ok (.invokestatic 152, 3) := by decide +kernel
theorem dX5_takeName_102 : decode cX5_takeName 102 = .ok (.ifCond .ne 5, 3) := by decide +kernel
theorem dX5_takeName_105 : decode cX5_takeName 105 = .ok (.iconst 0, 1) := by decide +kernel
theorem dX5_takeName_106 : decode cX5_takeName 106 = .ok (.ireturn, 1) := by decide +kernel
theorem dX5_takeName_107 : decode cX5_takeName 107 = .ok (.iload 5, 2) := by decide +kernel
theorem dX5_takeName_109 : decode cX5_takeName 109 = .ok (.ifCond .eq 7, 3) := by decide +kernel
theorem dX5_takeName_112 : decode cX5_takeName 112 = .ok (.lload_n 3, 1) := by decide +kernel
theorem dX5_takeName_113 : decode cX5_takeName 113 = .ok (.goto 4, 3) := by decide +kernel
theorem dX5_takeName_116 : decode cX5_takeName 116 = .ok (.lconst 0, 1) := by decide +kernel
theorem dX5_takeName_117 : decode cX5_takeName 117 = .ok (.lstore_n 3, 1) := by decide +kernel
theorem dX5_takeName_118 : decode cX5_takeName 118 = .ok (.goto (-109), 3) := by decide +kernel
theorem dX5_takeName_121 : decode cX5_takeName 121 = .ok (.iload 5, 2) := by decide +kernel
theorem dX5_takeName_123 : decode cX5_takeName 123 = .ok (.ifCond .ne 15, 3) := by decide +kernel
theorem dX5_takeName_126 : decode cX5_takeName 126 = .ok (.aload_n 1, 1) := by decide +kernel
theorem dX5_takeName_127 : decode cX5_takeName 127 = .ok (.invokevirtual 45, 3) := by decide +kernel
theorem dX5_takeName_130 : decode cX5_takeName 130 = .ok (.iconst 2, 1) := by decide +kernel
theorem dX5_takeName_131 : decode cX5_takeName 131 = .ok (.if_icmp .lt 7, 3) := by decide +kernel
theorem dX5_takeName_134 : decode cX5_takeName 134 = .ok (.iconst 1, 1) := by decide +kernel
theorem dX5_takeName_135 : decode cX5_takeName 135 = .ok (.goto 4, 3) := by decide +kernel
theorem dX5_takeName_138 : decode cX5_takeName 138 = .ok (.iconst 0, 1) := by decide +kernel
theorem dX5_takeName_139 : decode cX5_takeName 139 = .ok (.ireturn, 1) := by decide +kernel
theorem dX5_addToName_0 : decode cX5_addToName 0 = .ok (.aload_n 0, 1) := by decide +kernel
theorem dX5_addToName_1 : decode cX5_addToName 1 = .ok (.invokevirtual 45, 3) := by decide +kernel
theorem dX5_addToName_4 : decode cX5_addToName 4 = .ok (.ifCond .le 26, 3) := by decide +kernel
theorem dX5_addToName_7 : decode cX5_addToName 7 = .ok (.aload_n 0, 1) := by decide +kernel
theorem dX5_addToName_8 : decode cX5_addToName 8 = .ok (.invokevirtual 45, 3) := by decide +kernel
theorem dX5_addToName_11 : decode cX5_addToName 11 = .ok (.bipush 16, 2) := by decide +kernel
theorem dX5_addToName_13 : decode cX5_addToName 13 = .ok (.if_icmp .ge 15, 3) := by decide +kernel
theorem dX5_addToName_16 : decode cX5_addToName 16 = .ok (.aload_n 0, 1) := by decide +kernel
theorem dX5_addToName_17 : decode cX5_addToName 17 = .ok (.lload_n 1, 1) := by decide +kernel
theorem dX5_addToName_18 : decode cX5_addToName 18 = .ok (.invokevirtual 144, 3) := by decide +kernel
theorem dX5_addToName_21 : decode cX5_addToName 21 = .ok (.ifCond .eq 7, 3) := by decide +kernel
theorem dX5_addToName_24 : decode cX5_addToName 24 = .ok (.iconst 1, 1) := by decide +kernel
theorem dX5_addToName_25 : decode cX5_addToName 25 = .ok (.goto 4, 3) := by decide +kernel
theorem dX5_addToName_28 : decode cX5_addToName 28 = .ok (.iconst 0, 1) := by decide +kernel
theorem dX5_addToName_29 : decode cX5_addToName 29 = .ok (.ireturn, 1) := by decide +kernel
theorem dX5_addToName_30 : decode cX5_addToName 30 = .ok (.lload_n 1, 1) := by decide +kernel
theorem dX5_addToName_31 : decode cX5_addToName 31 = .ok (.ldc2_w 156, 3) := by decide +kernel
theorem dX5_addToName_34 : decode cX5_addToName 34 = .ok (.lcmp, 1) := by decide +kernel
theorem dX5_addToName_35 : decode cX5_addToName 35 = .ok (.ifCond .lt 5, 3) := by decide +kernel
theorem dX5_addToName_38 : decode cX5_addToName 38 = .ok (.iconst 0, 1) := by decide +kernel
theorem dX5_addToName_39 : decode cX5_addToName 39 = .ok (.ireturn, 1) := by decide +kernel
theorem dX5_addToName_40 : decode cX5_addToName 40 = .ok (.aload_n 0, 1) := by decide +kernel
theorem dX5_addToName_41 : decode cX5_addToName 41 = .ok (.lload_n 1, 1) := by decide +kernel
theorem dX5_addToName_42 : decode cX5_addToName 42 = .ok (.ldc2_w 158, 3) := by decide +kernel
theorem dX5_addToName_45 : decode cX5_addToName 45 = .ok (.ldiv, 1) := by decide +kernel
theorem dX5_addToName_46 : decode cX5_addToName 46 = .ok (.invokevirtual 144, 3) := by decide +kernel
theorem dX5_addToName_49 : decode cX5_addToName 49 = .ok (.ifCond .eq 19, 3) := by decide +kernel
theorem dX5_addToName_52 : decode cX5_addToName 52 = .ok (.aload_n 0, 1) := by decide +kernel
theorem dX5_addToName_53 : decode cX5_addToName 53 = .ok (.lload_n 1, 1) := by decide +kernel
theorem dX5_addToName_54 : decode cX5_addToName 54 = .ok (.ldc2_w 158, 3) := by decide +kernel
theorem dX5_addToName_57 : decode cX5_addToName 57 = .ok (.lrem, 1) := by decide +kernel
theorem dX5_addToName_58 : decode cX5_addToName 58 = .ok (.invokevirtual 144, 3) := by decide +kernel
theorem dX5_addToName_61 : decode cX5_addToName 61 = .ok (.ifCond .eq 7, 3) := by decide +kernel
theorem dX5_addToName_64 : decode cX5_addToName 64 = .ok (.iconst 1, 1) := by decide +kernel
theorem dX5_addToName_65 : decode cX5_addToName 65 = .ok (.goto 4, 3) := by decide +kernel
theorem dX5_addToName_68 : decode cX5_addToName 68 = .ok (.iconst 0, 1) := by decide +kernel
theorem dX5_addToName_69 : decode cX5_addToName 69 = .ok (.ireturn, 1) := by decide +kernel
theorem dX6_init_0 : decode cX6_init 0 = .ok (.aload_n 0, 1) := by decide +kernel
theorem dX6_init_1 : decode cX6_init 1 = .ok (.invokespecial 3, 3) := by decide +kernel
theorem dX6_init_4 : decode cX6_init 4 = .ok (.aload_n 0, 1) := by decide +kernel
theorem dX6_init_5 : decode cX6_init 5 = .ok (.new 9, 3) := by decide +kernel
theorem dX6_init_8 : decode cX6_init 8 = .ok (.dup, 1) := by decide +kernel
theorem dX6_init_9 : decode cX6_init 9 = .ok (.sipush 1000, 3) := by decide +kernel
theorem dX6_init_12 : decode cX6_init 12 = .ok (.invokespecial 11, 3) := by decide +kernel
theorem dX6_init_15 : decode cX6_init 15 = .ok (.putfield 14, 3) := by decide +kernel
theorem dX6_init_18 : decode cX6_init 18 = .ok (.aload_n 0, 1) := by decide +kernel
theorem dX6_init_19 : decode cX6_init 19 = .ok (.bipush 40, 2) := by decide +kernel
theorem dX6_init_21 : decode cX6_init 21 = .ok (.anewarray 20, 3) := by decide +kernel
theorem dX6_init_24 : decode cX6_init 24 = .ok (.putfield 22, 3) := by decide +kernel
theorem dX6_init_27 : decode cX6_init 27 = .ok (.new 26, 3) := by decide +kernel
theorem dX6_init_30 : decode cX6_init 30 = .ok (.dup, 1) := by decide +kernel
theorem dX6_init_31 : decode cX6_init 31 = .ok (.iconst 5, 1) := by decide +kernel
theorem dX6_init_32 : decode cX6_init 32 = .ok (.iconst 0, 1) := by decide +kernel
theorem dX6_init_33 : decode cX6_init 33 = .ok (.invokespecial 28, 3) := by decide +kernel
theorem dX6_init_36 : decode cX6_init 36 = .ok (.astore_n 1, 1) := by decide +kernel
theorem dX6_init_37 : decode cX6_init 37 = .ok (.iconst 0, 1) := by decide +kernel
theorem dX6_init_38 : decode cX6_init 38 = .ok (.istore_n 2, 1) := by decide +kernel
theorem dX6_init_39 : decode cX6_init 39 = .ok (.iload_n 2, 1) := by decide +kernel
theorem dX6_init_40 : decode cX6_init 40 = .ok (.aload_n 0, 1) := by decide +kernel
theorem dX6_init_41 : decode cX6_init 41 = .ok (.getfield 22, 3) := by decide +kernel
theorem dX6_init_44 : decode cX6_init 44 = .ok (.arraylength, 1) := by decide +kernel
theorem dX6_init_45 : decode cX6_init 45 = .ok (.if_icmp .ge 23, 3) := by decide +kernel
theorem dX6_init_48 : decode cX6_init 48 = .ok (.aload_n 0, 1) := by decide +kernel
theorem dX6_init_49 : decode cX6_init 49 = .ok (.getfield 22, 3) := by decide +kernel
theorem dX6_init_52 : decode cX6_init 52 = .ok (.iload_n 2, 1) := by decide +kernel
theorem dX6_init_53 : decode cX6_init 53 = .ok (.new 20, 3) := by decide +kernel
theorem dX6_init_56 : decode cX6_init 56 = .ok (.dup, 1) := by decide +kernel
theorem dX6_init_57 : decode cX6_init 57 = .ok (.aload_n 1, 1) := by decide +kernel
theorem dX6_init_58 : decode cX6_init 58 = .ok (.invokespecial 31, 3) := by decide +kernel
theorem dX6_init_61 : decode cX6_init 61 = .ok (.aastore, 1) := by decide +kernel
theorem dX6_init_62 : decode cX6_init 62 = .ok (.iinc 2 1, 3) := by decide +kernel
theorem dX6_init_65 : decode cX6_init 65 = .ok (.goto (-26), 3) := by decide +kernel
theorem dX6_init_68 : decode cX6_init 68 = .ok (.return_, 1) := by decide +kernel
theorem dX6_error_0 : decode cX6_error 0 = .ok (.aload_n 0, 1) := by decide +kernel
theorem dX6_error_1 : decode cX6_error 1 = .ok (.getfield 34, 3) := by decide +kernel
theorem dX6_error_4 : decode cX6_error 4 = .ok (.ireturn, 1) := by decide +kernel
theorem dX6_pairAt_0 : decode cX6_pairAt 0 = .ok (.iload_n 1, 1) := by decide +kernel
theorem dX6_pairAt_1 : decode cX6_pairAt 1 = .ok (.ifCond .lt 29, 3) := by decide +kernel
theorem dX6_pairAt_4 : decode cX6_pairAt 4 = .ok (.iload_n 1, 1) := by decide +kernel
theorem dX6_pairAt_5 : decode cX6_pairAt 5 = .ok (.aload_n 0, 1) := by decide +kernel
theorem dX6_pairAt_6 : decode cX6_pairAt 6 = .ok (.getfield 38, 3) := by decide +kernel
theorem dX6_pairAt_9 : decode cX6_pairAt 9 = .ok (.if_icmp .ge 21, 3) := by decide +kernel
theorem dX6_pairAt_12 : decode cX6_pairAt 12 = .ok (.iload_n 1, 1) := by decide +kernel
theorem dX6_pairAt_13 : decode cX6_pairAt 13 = .ok (.aload_n 0, 1) := by decide +kernel
theorem dX6_pairAt_14 : decode cX6_pairAt 14 = .ok (.getfield 22, 3) := by decide +kernel
theorem dX6_pairAt_17 : decode cX6_pairAt 17 = .ok (.arraylength, 1) := by decide +kernel
theorem dX6_pairAt_18 : decode cX6_pairAt 18 = .ok (.if_icmp .ge 12, 3) := by decide +kernel
theorem dX6_pairAt_21 : decode cX6_pairAt 21 = .ok (.aload_n 0, 1) := by decide +kernel
theorem dX6_pairAt_22 : decode cX6_pairAt 22 = .ok (.getfield 22, 3) := by decide +kernel
theorem dX6_pairAt_25 : decode cX6_pairAt 25 = .ok (.iload_n 1, 1) := by decide +kernel
theorem dX6_pairAt_26 : decode cX6_pairAt 26 = .ok (.aaload, 1) := by decide +kernel
theorem dX6_pairAt_27 : decode cX6_pairAt 27 = .ok (.goto 4, 3) := by decide +kernel
theorem dX6_pairAt_30 : decode cX6_pairAt 30 = .ok (.aconst_null, 1) := by decide +kernel
theorem dX6_pairAt_31 : decode cX6_pairAt 31 = .ok (.areturn, 1) := by decide +kernel
theorem dX6_clear_0 : decode cX6_clear 0 = .ok (.aload_n 0, 1) := by decide +kernel
theorem dX6_clear_1 : decode cX6_clear 1 = .ok (.getfield 14, 3) := by decide +kernel
theorem dX6_clear_4 : decode cX6_clear 4 = .ok (.invokevirtual 41, 3) := by decide +kernel
theorem dX6_clear_7 : decode cX6_clear 7 = .ok (.aload_n 0, 1) := by decide +kernel
theorem dX6_clear_8 : decode cX6_clear 8 = .ok (.iconst 0, 1) := by decide +kernel
theorem dX6_clear_9 : decode cX6_clear 9 = .ok (.iconst 0, 1) := by decide +kernel
theorem dX6_clear_10 : decode cX6_clear 10 = .ok (.invokevirtual 44, 3) := by decide +kernel
theorem dX6_clear_13 : decode cX6_clear 13 = .ok (.return_, 1) := by decide +kernel
theorem dX6_fail_0 : decode cX6_fail 0 = .ok (.aload_n 0, 1) := by decide +kernel
theorem dX6_fail_1 : decode cX6_fail 1 = .ok (.iconst 0, 1) := by decide +kernel
theorem dX6_fail_2 : decode cX6_fail 2 = .ok (.putfield 38, 3) := by decide +kernel
theorem dX6_fail_5 : decode cX6_fail 5 = .ok (.aload_n 0, 1) := by decide +kernel
theorem dX6_fail_6 : decode cX6_fail 6 = .ok (.iconst 0, 1) := by decide +kernel
theorem dX6_fail_7 : decode cX6_fail 7 = .ok (.putfield 47, 3) := by decide +kernel
theorem dX6_fail_10 : decode cX6_fail 10 = .ok (.aload_n 0, 1) := by decide +kernel
theorem dX6_fail_11 : decode cX6_fail 11 = .ok (.iload_n 1, 1) := by decide +kernel
theorem dX6_fail_12 : decode cX6_fail 12 = .ok (.putfield 34, 3) := by decide +kernel
theorem dX6_fail_15 : decode cX6_fail 15 = .ok (.aload_n 0, 1) := by decide +kernel
theorem dX6_fail_16 : decode cX6_fail 16 = .ok (.iload_n 2, 1) := by decide +kernel
theorem dX6_fail_17 : decode cX6_fail 17 = .ok (.putfield 50, 3) := by decide +kernel
theorem dX6_fail_20 : decode cX6_fail 20 = .ok (.return_, 1) := by decide +kernel
theorem dX6_tell_0 : decode cX6_tell 0 = .ok (.aload_n 0, 1) := by decide +kernel
theorem dX6_tell_1 : decode cX6_tell 1 = .ok (.getfield 38, 3) := by decide +kernel
theorem dX6_tell_4 : decode cX6_tell 4 = .ok (.ifCond .lt 27, 3) := by decide +kernel
theorem dX6_tell_7 : decode cX6_tell 7 = .ok (.aload_n 0, 1) := by decide +kernel
theorem dX6_tell_8 : decode cX6_tell 8 = .ok (.getfield 38, 3) := by decide +kernel
theorem dX6_tell_11 : decode cX6_tell 11 = .ok (.aload_n 0, 1) := by decide +kernel
theorem dX6_tell_12 : decode cX6_tell 12 = .ok (.getfield 22, 3) := by decide +kernel
theorem dX6_tell_15 : decode cX6_tell 15 = .ok (.arraylength, 1) := by decide +kernel
theorem dX6_tell_16 : decode cX6_tell 16 = .ok (.if_icmp .ge 15, 3) := by decide +kernel
theorem dX6_tell_19 : decode cX6_tell 19 = .ok (.aload_n 0, 1) := by decide +kernel
theorem dX6_tell_20 : decode cX6_tell 20 = .ok (.getfield 22, 3) := by decide +kernel
theorem dX6_tell_23 : decode cX6_tell 23 = .ok (.aload_n 0, 1) := by decide +kernel
theorem dX6_tell_24 : decode cX6_tell 24 = .ok (.getfield 38, 3) := by decide +kernel
theorem dX6_tell_27 : decode cX6_tell 27 = .ok (.aaload, 1) := by decide +kernel
theorem dX6_tell_28 : decode cX6_tell 28 = .ok (.goto 4, 3) := by decide +kernel
theorem dX6_tell_31 : decode cX6_tell 31 = .ok (.aconst_null, 1) := by decide +kernel
theorem dX6_tell_32 : decode cX6_tell 32 = .ok (.astore_n 3, 1) := by decide +kernel
theorem dX6_tell_33 : decode cX6_tell 33 = .ok (.aload_n 3, 1) := by decide +kernel
theorem dX6_tell_34 : decode cX6_tell 34 = .ok (.ifnull 43, 3) := by decide +kernel
theorem dX6_tell_37 : decode cX6_tell 37 = .ok (.aload_n 3, 1) := by decide +kernel
theorem dX6_tell_38 : decode cX6_tell 38 = .ok (.getfield 53, 3) := by decide +kernel
theorem dX6_tell_41 : decode cX6_tell 41 = .ok (.aload_n 1, 1) := by decide +kernel
theorem dX6_tell_42 : decode cX6_tell 42 = .ok (.invokevirtual 56, 3) := by decide +kernel
theorem dX6_tell_45 : decode cX6_tell 45 = .ok (.aload_n 3, 1) := by decide +kernel
theorem dX6_tell_46 : decode cX6_tell 46 = .ok (.aload_n 2, 1) := by decide +kernel
theorem dX6_tell_47 : decode cX6_tell 47 = .ok (.putfield 60, 3) := by decide +kernel
theorem dX6_tell_50 : decode cX6_tell 50 = .ok (.aload_n 0, 1) := by decide +kernel
theorem dX6_tell_51 : decode cX6_tell 51 = .ok (.dup, 1) := by decide +kernel
theorem dX6_tell_52 : decode cX6_tell 52 = .ok (.getfield 38, 3) := by decide +kernel
theorem dX6_tell_55 : decode cX6_tell 55 = .ok (.iconst 1, 1) := by decide +kernel
theorem dX6_tell_56 : decode cX6_tell 56 = .ok (.iadd, 1) := by decide +kernel
theorem dX6_tell_57 : decode cX6_tell 57 = .ok (.putfield 38, 3) := by decide +kernel
theorem dX6_tell_60 : decode cX6_tell 60 = .ok (.aload_n 0, 1) := by decide +kernel
theorem dX6_tell_61 : decode cX6_tell 61 = .ok (.dup, 1) := by decide +kernel
theorem dX6_tell_62 : decode cX6_tell 62 = .ok (.getfield 47, 3) := by decide +kernel
theorem dX6_tell_65 : decode cX6_tell 65 = .ok (.aload_n 1, 1) := by decide +kernel
theorem dX6_tell_66 : decode cX6_tell 66 = .ok (.aload_n 2, 1) := by decide +kernel
theorem dX6_tell_67 : decode cX6_tell 67 = .ok (.invokestatic 64, 3) := by decide +kernel
theorem dX6_tell_70 : decode cX6_tell 70 = .ok (.invokestatic 68, 3) := by decide +kernel
theorem dX6_tell_73 : decode cX6_tell 73 = .ok (.iadd, 1) := by decide +kernel
theorem dX6_tell_74 : decode cX6_tell 74 = .ok (.putfield 47, 3) := by decide +kernel
theorem dX6_tell_77 : decode cX6_tell 77 = .ok (.return_, 1) := by decide +kernel
theorem dX6_tellAsked_0 : decode cX6_tellAsked 0 = .ok (.iconst 0, 1) := by decide +kernel
theorem dX6_tellAsked_1 : decode cX6_tellAsked 1 = .ok (.istore_n 2, 1) := by decide +kernel
theorem dX6_tellAsked_2 : decode cX6_tellAsked 2 = .ok (.iload_n 2, 1) := by decide +kernel
theorem dX6_tellAsked_3 : decode cX6_tellAsked 3 = .ok (.aload_n 1, 1) := by decide +kernel
theorem dX6_tellAsked_4 : decode cX6_tellAsked 4 = .ok (.getfield 72, 3) := by decide +kernel
theorem dX6_tellAsked_7 : decode cX6_tellAsked 7 = .ok (.if_icmp .ge 31, 3) := by decide +kernel
theorem dX6_tellAsked_10 : decode cX6_tellAsked 10 = .ok (.aload_n 1, 1) := by decide +kernel
theorem dX6_tellAsked_11 : decode cX6_tellAsked 11 = .ok (.iload_n 2, 1) := by decide +kernel
theorem dX6_tellAsked_12 : decode cX6_tellAsked 12 = .ok (.invokevirtual 75, 3) := by decide +kernel
theorem dX6_tellAsked_15 : decode cX6_tellAsked 15 = .ok (.astore_n 3, 1) := by decide +kernel
theorem dX6_tellAsked_16 : decode cX6_tellAsked 16 = .ok (.aload_n 3, 1) := by decide +kernel
theorem dX6_tellAsked_17 : decode cX6_tellAsked 17 = .ok (.ifnull 15, 3) := by decide +kernel
theorem dX6_tellAsked_20 : decode cX6_tellAsked 20 = .ok (.aload_n 0, 1) := by decide +kernel
theorem dX6_tellAsked_21 : decode cX6_tellAsked 21 = .ok (.aload_n 3, 1) := by decide +kernel
theorem dX6_tellAsked_22 : decode cX6_tellAsked 22 = .ok (.getfield 53, 3) := by decide +kernel
theorem dX6_tellAsked_25 : decode cX6_tellAsked 25 = .ok (.aload_n 3, 1) := by decide +kernel
theorem dX6_tellAsked_26 : decode cX6_tellAsked 26 = .ok (.getfield 60, 3) := by decide +kernel
theorem dX6_tellAsked_29 : decode cX6_tellAsked 29 = .ok (.invokevirtual 79, 3) := by decide +kernel
theorem dX6_tellAsked_32 : decode cX6_tellAsked 32 = .ok (.iinc 2 1, 3) := by decide +kernel
theorem dX6_tellAsked_35 : decode cX6_tellAsked 35 = .ok (.goto (-33), 3) := by decide +kernel
theorem dX6_tellAsked_38 : decode cX6_tellAsked 38 = .ok (.return_, 1) := by decide +kernel
theorem dX6_sizeFor_0 : decode cX6_sizeFor 0 = .ok (.aload_n 0, 1) := by decide +kernel
theorem dX6_sizeFor_1 : decode cX6_sizeFor 1 = .ok (.aload_n 1, 1) := by decide +kernel
theorem dX6_sizeFor_2 : decode cX6_sizeFor 2 = .ok (.aload_n 0, 1) := by decide +kernel
theorem dX6_sizeFor_3 : decode cX6_sizeFor 3 = .ok (.getfield 47, 3) := by decide +kernel
theorem dX6_sizeFor_6 : decode cX6_sizeFor 6 = .ok (.invokevirtual 83, 3) := by decide +kernel
theorem dX6_sizeFor_9 : decode cX6_sizeFor 9 = .ok (.invokestatic 68, 3) := by decide +kernel
theorem dX6_sizeFor_12 : decode cX6_sizeFor 12 = .ok (.ireturn, 1) := by decide +kernel
theorem dX6_sizeWith_0 : decode cX6_sizeWith 0 = .ok (.aload_n 0, 1) := by decide +kernel
theorem dX6_sizeWith_1 : decode cX6_sizeWith 1 = .ok (.aload_n 1, 1) := by decide +kernel
theorem dX6_sizeWith_2 : decode cX6_sizeWith 2 = .ok (.aload_n 0, 1) := by decide +kernel
theorem dX6_sizeWith_3 : decode cX6_sizeWith 3 = .ok (.getfield 47, 3) := by decide +kernel
theorem dX6_sizeWith_6 : decode cX6_sizeWith 6 = .ok (.aload_n 2, 1) := by decide +kernel
theorem dX6_sizeWith_7 : decode cX6_sizeWith 7 = .ok (.aload_n 3, 1) := by decide +kernel
theorem dX6_sizeWith_8 : decode cX6_sizeWith 8 = .ok (.invokestatic 64, 3) := by decide +kernel
theorem dX6_sizeWith_11 : decode cX6_sizeWith 11 = .ok (.invokestatic 68, 3) := by decide +kernel
theorem dX6_sizeWith_14 : decode cX6_sizeWith 14 = .ok (.iadd, 1) := by decide +kernel
theorem dX6_sizeWith_15 : decode cX6_sizeWith 15 = .ok (.invokevirtual 83, 3) := by decide +kernel
theorem dX6_sizeWith_18 : decode cX6_sizeWith 18 = .ok (.invokestatic 68, 3) := by decide +kernel
theorem dX6_sizeWith_21 : decode cX6_sizeWith 21 = .ok (.ireturn, 1) := by decide +kernel
theorem dX6_outerContent_0 : decode cX6_outerContent 0 = .ok (.aload_n 1, 1) := by decide +kernel
theorem dX6_outerContent_1 : decode cX6_outerContent 1 = .ok (.getfield 87, 3) := by decide +kernel
theorem dX6_outerContent_4 : decode cX6_outerContent 4 = .ok (.invokestatic 90, 3) := by decide +kernel
theorem dX6_outerContent_7 : decode cX6_outerContent 7 = .ok (.aload_n 1, 1) := by decide +kernel
theorem dX6_outerContent_8 : decode cX6_outerContent 8 = .ok (.getfield 93, 3) := by decide +kernel
theorem dX6_outerContent_11 : decode cX6_outerContent 11 = .ok (.invokevirtual 96, 3) := by decide +kernel
theorem dX6_outerContent_14 : decode cX6_outerContent 14 = .ok (.invokestatic 68, 3) := by decide +kernel
theorem dX6_outerContent_17 : decode cX6_outerContent 17 = .ok (.iadd, 1) := by decide +kernel
theorem dX6_outerContent_18 : decode cX6_outerContent 18 = .ok (.istore_n 3, 1) := by decide +kernel
theorem dX6_outerContent_19 : decode cX6_outerContent 19 = .ok (.iload_n 3, 1) := by decide +kernel
theorem dX6_outerContent_20 : decode cX6_outerContent 20 = .ok (.aload_n 0, 1) := by decide +kernel
theorem dX6_outerContent_21 : decode cX6_outerContent 21 = .ok (.aload_n 1, 1) := by decide +kernel
theorem dX6_outerContent_22 : decode cX6_outerContent 22 = .ok (.iload_n 2, 1) := by decide +kernel
theorem dX6_outerContent_23 : decode cX6_outerContent 23 = .ok (.invokevirtual 100, 3) := by decide +kernel
theorem dX6_outerContent_26 : decode cX6_outerContent 26 = .ok (.invokestatic 68, 3) := by decide +kernel
theorem dX6_outerContent_29 : decode cX6_outerContent 29 = .ok (.iadd, 1) := by decide +kernel
theorem dX6_outerContent_30 : decode cX6_outerContent 30 = .ok (.ireturn, 1) := by decide +kernel
theorem dX6_innerContent_0 : decode cX6_innerContent 0 = .ok (.aload_n 1, 1) := by decide +kernel
theorem dX6_innerContent_1 : decode cX6_innerContent 1 = .ok (.getfield 103, 3) := by decide +kernel
theorem dX6_innerContent_4 : decode cX6_innerContent 4 = .ok (.invokestatic 90, 3) := by decide +kernel
theorem dX6_innerContent_7 : decode cX6_innerContent 7 = .ok (.aload_n 0, 1) := by decide +kernel
theorem dX6_innerContent_8 : decode cX6_innerContent 8 = .ok (.getfield 34, 3) := by decide +kernel
theorem dX6_innerContent_11 : decode cX6_innerContent 11 = .ok (.invokestatic 90, 3) := by decide +kernel
theorem dX6_innerContent_14 : decode cX6_innerContent 14 = .ok (.iadd, 1) := by decide +kernel
theorem dX6_innerContent_15 : decode cX6_innerContent 15 = .ok (.aload_n 0, 1) := by decide +kernel
theorem dX6_innerContent_16 : decode cX6_innerContent 16 = .ok (.getfield 50, 3) := by decide +kernel
theorem dX6_innerContent_19 : decode cX6_innerContent 19 = .ok (.invokestatic 90, 3) := by decide +kernel
theorem dX6_innerContent_22 : decode cX6_innerContent 22 = .ok (.iadd, 1) := by decide +kernel
theorem dX6_innerContent_23 : decode cX6_innerContent 23 = .ok (.istore_n 3, 1) := by decide +kernel
theorem dX6_innerContent_24 : decode cX6_innerContent 24 = .ok (.iload_n 3, 1) := by decide +kernel
theorem dX6_innerContent_25 : decode cX6_innerContent 25 = .ok (.iload_n 2, 1) := by decide +kernel
theorem dX6_innerContent_26 : decode cX6_innerContent 26 = .ok (.invokestatic 68, 3) := by decide +kernel
theorem dX6_innerContent_29 : decode cX6_innerContent 29 = .ok (.iadd, 1) := by decide +kernel
theorem dX6_innerContent_30 : decode cX6_innerContent 30 = .ok (.ireturn, 1) := by decide +kernel
theorem dX6_integerSize_0 : decode cX6_integerSize 0 = .ok (.iload_n 0, 1) := by decide +kernel
theorem dX6_integerSize_1 : decode cX6_integerSize 1 = .ok (.i2l, 1) := by decide +kernel
theorem dX6_integerSize_2 : decode cX6_integerSize 2 = .ok (.invokestatic 106, 3) := by decide +kernel
theorem dX6_integerSize_5 : decode cX6_integerSize 5 = .ok (.invokestatic 68, 3) := by decide +kernel
theorem dX6_integerSize_8 : decode cX6_integerSize 8 = .ok (.ireturn, 1) := by decide +kernel
theorem dX6_fieldSize_0 : decode cX6_fieldSize 0 = .ok (.iload_n 0, 1) := by decide +kernel
theorem dX6_fieldSize_1 : decode cX6_fieldSize 1 = .ok (.sipush 128, 3) := by decide +kernel
theorem dX6_fieldSize_4 : decode cX6_fieldSize 4 = .ok (.if_icmp .ge 7, 3) := by decide +kernel
theorem dX6_fieldSize_7 : decode cX6_fieldSize 7 = .ok (.iconst 1, 1) := by decide +kernel
theorem dX6_fieldSize_8 : decode cX6_fieldSize 8 = .ok (.goto 15, 3) := by decide +kernel
theorem dX6_fieldSize_11 : decode cX6_fieldSize 11 = .ok (.iload_n 0, 1) := by decide +kernel
theorem dX6_fieldSize_12 : decode cX6_fieldSize 12 = .ok (.sipush 256, 3) := by decide +kernel
theorem dX6_fieldSize_15 : decode cX6_fieldSize 15 = .ok (.if_icmp .ge 7, 3) := by decide +kernel
theorem dX6_fieldSize_18 : decode cX6_fieldSize 18 = .ok (.iconst 2, 1) := by decide +kernel
theorem dX6_fieldSize_19 : decode cX6_fieldSize 19 = .ok (.goto 4, 3) := by decide +kernel
theorem dX6_fieldSize_22 : decode cX6_fieldSize 22 = .ok (.iconst 3, 1) := by decide +kernel
theorem dX6_fieldSize_23 : decode cX6_fieldSize 23 = .ok (.istore_n 1, 1) := by decide +kernel
theorem dX6_fieldSize_24 : decode cX6_fieldSize 24 = .ok (.iconst 1, 1) := by decide +kernel
theorem dX6_fieldSize_25 : decode cX6_fieldSize 25 = .ok (.iload_n 1, 1) := by decide +kernel
theorem dX6_fieldSize_26 : decode cX6_fieldSize 26 = .ok (.iadd, 1) := by decide +kernel
theorem dX6_fieldSize_27 : decode cX6_fieldSize 27 = .ok (.iload_n 0, 1) := by decide +kernel
theorem dX6_fieldSize_28 : decode cX6_fieldSize 28 = .ok (.iadd, 1) := by decide +kernel
theorem dX6_fieldSize_29 : decode cX6_fieldSize 29 = .ok (.ireturn, 1) := by decide +kernel
theorem dX6_pairContent_0 : decode cX6_pairContent 0 = .ok (.aload_n 0, 1) := by decide +kernel
theorem dX6_pairContent_1 : decode cX6_pairContent 1 = .ok (.invokestatic 110, 3) := by decide +kernel
theorem dX6_pairContent_4 : decode cX6_pairContent 4 = .ok (.invokestatic 68, 3) := by decide +kernel
theorem dX6_pairContent_7 : decode cX6_pairContent 7 = .ok (.aload_n 1, 1) := by decide +kernel
theorem dX6_pairContent_8 : decode cX6_pairContent 8 = .ok (.invokestatic 114, 3) := by decide +kernel
theorem dX6_pairContent_11 : decode cX6_pairContent 11 = .ok (.invokestatic 68, 3) := by decide +kernel
theorem dX6_pairContent_14 : decode cX6_pairContent 14 = .ok (.iadd, 1) := by decide +kernel
theorem dX6_pairContent_15 : decode cX6_pairContent 15 = .ok (.ireturn, 1) := by decide +kernel
theorem dX6_valueContent_0 : decode cX6_valueContent 0 = .ok (.aload_n 0, 1) := by decide +kernel
theorem dX6_valueContent_1 : decode cX6_valueContent 1 = .ok (.getfield 118, 3) := by decide +kernel
theorem dX6_valueContent_4 : decode cX6_valueContent 4 = .ok (.lookupswitch 124 #[(2, 94), (4, 76), (6, 84), (64, 92), (65, 94), (66, 94), (67, 94), (70, 102)], 76) := by decide +kernel
theorem dX6_valueContent_80 : decode cX6_valueContent 80 = .ok (.aload_n 0, 1) := by decide +kernel
theorem dX6_valueContent_81 : decode cX6_valueContent 81 = .ok (.getfield 121, 3) := by decide +kernel
theorem dX6_valueContent_84 : decode cX6_valueContent 84 = .ok (.invokevirtual 96, 3) := by decide +kernel
theorem dX6_valueContent_87 : decode cX6_valueContent 87 = .ok (.ireturn, 1) := by decide +kernel
theorem dX6_valueContent_88 : decode cX6_valueContent 88 = .ok (.aload_n 0, 1) := by decide +kernel
theorem dX6_valueContent_89 : decode cX6_valueContent 89 = .ok (.getfield 121, 3) := by decide +kernel
theorem dX6_valueContent_92 : decode cX6_valueContent 92 = .ok (.invokestatic 110, 3) := by decide +kernel
theorem dX6_valueContent_95 : decode cX6_valueContent 95 = .ok (.ireturn, 1) := by decide +kernel
theorem dX6_valueContent_96 : decode cX6_valueContent 96 = .ok (.iconst 4, 1) := by decide +kernel
theorem dX6_valueContent_97 : decode cX6_valueContent 97 = .ok (.ireturn, 1) := by decide +kernel
theorem dX6_valueContent_98 : decode cX6_valueContent 98 = .ok (.aload_n 0, 1) := by decide +kernel
theorem dX6_valueContent_99 : decode cX6_valueContent 99 = .ok (.getfield 124, 3) := by decide +kernel
theorem dX6_valueContent_102 : decode cX6_valueContent 102 = .ok (.invokestatic 106, 3) := by decide +kernel
theorem dX6_valueContent_105 : decode cX6_valueContent 105 = .ok (.ireturn, 1) := by decide +kernel
theorem dX6_valueContent_106 : decode cX6_valueContent 106 = .ok (.aload_n 0, 1) := by decide +kernel
theorem dX6_valueContent_107 : decode cX6_valueContent 107 = .ok (.getfield 124, 3) := by decide +kernel
theorem dX6_valueContent_110 : decode cX6_valueContent 110 = .ok (.lconst 0, 1) := by decide +kernel
theorem dX6_valueContent_111 : decode cX6_valueContent 111 = .ok (.lcmp, 1) := by decide +kernel
theorem dX6_valueContent_112 : decode cX6_valueContent 112 = .ok (.ifCond .ge 8, 3) := by decide +kernel
theorem dX6_valueContent_115 : decode cX6_valueContent 115 = .ok (.bipush 9, 2) := by decide +kernel
theorem dX6_valueContent_117 : decode cX6_valueContent 117 = .ok (.goto 10, 3) := by decide +kernel
theorem dX6_valueContent_120 : decode cX6_valueContent 120 = .ok (.aload_n 0, 1) := by decide +kernel
theorem dX6_valueContent_121 : decode cX6_valueContent 121 = .ok (.getfield 124, 3) := by decide +kernel
theorem dX6_valueContent_124 : decode cX6_valueContent 124 = .ok (.invokestatic 106, 3) := by decide +kernel
theorem dX6_valueContent_127 : decode cX6_valueContent 127 = .ok (.ireturn, 1) := by decide +kernel
theorem dX6_valueContent_128 : decode cX6_valueContent 128 = .ok (.iconst 0, 1) := by decide +kernel
theorem dX6_valueContent_129 : decode cX6_valueContent 129 = .ok (.ireturn, 1) := by decide +kernel
theorem dX6_numberContent_0 : decode cX6_numberContent 0 = .ok (.iconst 1, 1) := by decide +kernel
theorem dX6_numberContent_1 : decode cX6_numberContent 1 = .ok (.istore_n 2, 1) := by decide +kernel
theorem dX6_numberContent_2 : decode cX6_numberContent 2 = .ok (.iload_n 2, 1) := by decide +kernel
theorem dX6_numberContent_3 : decode cX6_numberContent 3 = .ok (.bipush 8, 2) := by decide +kernel
theorem dX6_numberContent_5 : decode cX6_numberContent 5 = .ok (.if_icmp .ge 34, 3) := by decide +kernel
theorem dX6_numberContent_8 : decode cX6_numberContent 8 = .ok (.lload_n 0, 1) := by decide +kernel
theorem dX6_numberContent_9 : decode cX6_numberContent 9 = .ok (.bipush 8, 2) := by decide +kernel
theorem dX6_numberContent_11 : decode cX6_numberContent 11 = .ok (.iload_n 2, 1) := by decide +kernel
theorem dX6_numberContent_12 : decode cX6_numberContent 12 = .ok (.imul, 1) := by decide +kernel
theorem dX6_numberContent_13 : decode cX6_numberContent 13 = .ok (.iconst 1, 1) := by decide +kernel
theorem dX6_numberContent_14 : decode cX6_numberContent 14 = .ok (.isub, 1) := by decide +kernel
theorem dX6_numberContent_15 : decode cX6_numberContent 15 = .ok (.lshr, 1) := by decide +kernel
theorem dX6_numberContent_16 : decode cX6_numberContent 16 = .ok (.lstore_n 3, 1) := by decide +kernel
theorem dX6_numberContent_17 : decode cX6_numberContent 17 = .ok (.lload_n 3, 1) := by decide +kernel
theorem dX6_numberContent_18 : decode cX6_numberContent 18 = .ok (.lconst 0, 1) := by decide +kernel
theorem dX6_numberContent_19 : decode cX6_numberContent 19 = .ok (.lcmp, 1) := by decide +kernel
theorem dX6_numberContent_20 : decode cX6_numberContent 20 = .ok (.ifCond .eq 11, 3) := by decide +kernel
theorem dX6_numberContent_23 : decode cX6_numberContent 23 = .ok (.lload_n 3, 1) := by decide +kernel
theorem dX6_numberContent_24 : decode cX6_numberContent 24 = .ok (.ldc2_w 128, 3) := by decide +kernel
theorem dX6_numberContent_27 : decode cX6_numberContent 27 = .ok (.lcmp, 1) := by decide +kernel
theorem dX6_numberContent_28 : decode cX6_numberContent 28 = .ok (.ifCond .ne 5, 3) := by decide +kernel
theorem dX6_numberContent_31 : decode cX6_numberContent 31 = .ok (.iload_n 2, 1) := by decide +kernel
theorem dX6_numberContent_32 : decode cX6_numberContent 32 = .ok (.ireturn, 1) := by decide +kernel
theorem dX6_numberContent_33 : decode cX6_numberContent 33 = .ok (.iinc 2 1, 3) := by decide +kernel
theorem dX6_numberContent_36 : decode cX6_numberContent 36 = .ok (.goto (-34), 3) := by decide +kernel
theorem dX6_numberContent_39 : decode cX6_numberContent 39 = .ok (.bipush 8, 2) := by decide +kernel
theorem dX6_numberContent_41 : decode cX6_numberContent 41 = .ok (.ireturn, 1) := by decide +kernel
theorem dX6_nameContent_0 : decode cX6_nameContent 0 = .ok (.iconst 1, 1) := by decide +kernel
theorem dX6_nameContent_1 : decode cX6_nameContent 1 = .ok (.istore_n 1, 1) := by decide +kernel
theorem dX6_nameContent_2 : decode cX6_nameContent 2 = .ok (.iconst 2, 1) := by decide +kernel
theorem dX6_nameContent_3 : decode cX6_nameContent 3 = .ok (.istore_n 2, 1) := by decide +kernel
theorem dX6_nameContent_4 : decode cX6_nameContent 4 = .ok (.iload_n 2, 1) := by decide +kernel
theorem dX6_nameContent_5 : decode cX6_nameContent 5 = .ok (.aload_n 0, 1) := by decide +kernel
theorem dX6_nameContent_6 : decode cX6_nameContent 6 = .ok (.invokevirtual 96, 3) := by decide +kernel
theorem dX6_nameContent_9 : decode cX6_nameContent 9 = .ok (.if_icmp .ge 20, 3) := by decide +kernel
theorem dX6_nameContent_12 : decode cX6_nameContent 12 = .ok (.iload_n 1, 1) := by decide +kernel
theorem dX6_nameContent_13 : decode cX6_nameContent 13 = .ok (.aload_n 0, 1) := by decide +kernel
theorem dX6_nameContent_14 : decode cX6_nameContent 14 = .ok (.iload_n 2, 1) := by decide +kernel
theorem dX6_nameContent_15 : decode cX6_nameContent 15 = .ok (.invokevirtual 130, 3) := by decide +kernel
theorem dX6_nameContent_18 : decode cX6_nameContent 18 = .ok (.invokestatic 134, 3) := by decide +kernel
theorem dX6_nameContent_21 : decode cX6_nameContent 21 = .ok (.iadd, 1) := by decide +kernel
theorem dX6_nameContent_22 : decode cX6_nameContent 22 = .ok (.istore_n 1, 1) := by decide +kernel
theorem dX6_nameContent_23 : decode cX6_nameContent 23 = .ok (.iinc 2 1, 3) := by decide +kernel
theorem dX6_nameContent_26 : decode cX6_nameContent 26 = .ok (.goto (-22), 3) := by decide +kernel
theorem dX6_nameContent_29 : decode cX6_nameContent 29 = .ok (.iload_n 1, 1) := by decide +kernel
theorem dX6_nameContent_30 : decode cX6_nameContent 30 = .ok (.ireturn, 1) := by decide +kernel
theorem dX6_sevens_0 : decode cX6_sevens 0 = .ok (.iconst 1, 1) := by decide +kernel
theorem dX6_sevens_1 : decode cX6_sevens 1 = .ok (.istore_n 2, 1) := by decide +kernel
theorem dX6_sevens_2 : decode cX6_sevens 2 = .ok (.iload_n 2, 1) := by decide +kernel
theorem dX6_sevens_3 : decode cX6_sevens 3 = .ok (.iconst 5, 1) := by decide +kernel
theorem dX6_sevens_4 : decode cX6_sevens 4 = .ok (.if_icmp .ge 20, 3) := by decide +kernel
theorem dX6_sevens_7 : decode cX6_sevens 7 = .ok (.lload_n 0, 1) := by decide +kernel
theorem dX6_sevens_8 : decode cX6_sevens 8 = .ok (.bipush 7, 2) := by decide +kernel
theorem dX6_sevens_10 : decode cX6_sevens 10 = .ok (.iload_n 2, 1) := by decide +kernel
theorem dX6_sevens_11 : decode cX6_sevens 11 = .ok (.imul, 1) := by decide +kernel
theorem dX6_sevens_12 : decode cX6_sevens 12 = .ok (.lushr, 1) := by decide +kernel
theorem dX6_sevens_13 : decode cX6_sevens 13 = .ok (.lconst 0, 1) := by decide +kernel
theorem dX6_sevens_14 : decode cX6_sevens 14 = .ok (.lcmp, 1) := by decide +kernel
theorem dX6_sevens_15 : decode cX6_sevens 15 = .ok (.ifCond .eq 9, 3) := by decide +kernel
theorem dX6_sevens_18 : decode cX6_sevens 18 = .ok (.iinc 2 1, 3) := by decide +kernel
theorem dX6_sevens_21 : decode cX6_sevens 21 = .ok (.goto (-19), 3) := by decide +kernel
theorem dX6_sevens_24 : decode cX6_sevens 24 = .ok (.iload_n 2, 1) := by decide +kernel
theorem dX6_sevens_25 : decode cX6_sevens 25 = .ok (.ireturn, 1) := by decide +kernel
theorem dX6_write_0 : decode cX6_write 0 = .ok (.aload_n 0, 1) := by decide +kernel
theorem dX6_write_1 : decode cX6_write 1 = .ok (.getfield 14, 3) := by decide +kernel
theorem dX6_write_4 : decode cX6_write 4 = .ok (.invokevirtual 41, 3) := by decide +kernel
theorem dX6_write_7 : decode cX6_write 7 = .ok (.aload_n 0, 1) := by decide +kernel
theorem dX6_write_8 : decode cX6_write 8 = .ok (.bipush 48, 2) := by decide +kernel
theorem dX6_write_10 : decode cX6_write 10 = .ok (.aload_n 0, 1) := by decide +kernel
theorem dX6_write_11 : decode cX6_write 11 = .ok (.aload_n 1, 1) := by decide +kernel
theorem dX6_write_12 : decode cX6_write 12 = .ok (.aload_n 0, 1) := by decide +kernel
theorem dX6_write_13 : decode cX6_write 13 = .ok (.getfield 47, 3) := by decide +kernel
theorem dX6_write_16 : decode cX6_write 16 = .ok (.invokevirtual 83, 3) := by decide +kernel
theorem dX6_write_19 : decode cX6_write 19 = .ok (.invokevirtual 137, 3) := by decide +kernel
theorem dX6_write_22 : decode cX6_write 22 = .ok (.aload_n 0, 1) := by decide +kernel
theorem dX6_write_23 : decode cX6_write 23 = .ok (.aload_n 1, 1) := by decide +kernel
theorem dX6_write_24 : decode cX6_write 24 = .ok (.getfield 87, 3) := by decide +kernel
theorem dX6_write_27 : decode cX6_write 27 = .ok (.invokevirtual 140, 3) := by decide +kernel
theorem dX6_write_30 : decode cX6_write 30 = .ok (.aload_n 0, 1) := by decide +kernel
theorem dX6_write_31 : decode cX6_write 31 = .ok (.iconst 4, 1) := by decide +kernel
theorem dX6_write_32 : decode cX6_write 32 = .ok (.aload_n 1, 1) := by decide +kernel
theorem dX6_write_33 : decode cX6_write 33 = .ok (.getfield 93, 3) := by decide +kernel
theorem dX6_write_36 : decode cX6_write 36 = .ok (.invokevirtual 96, 3) := by decide +kernel
theorem dX6_write_39 : decode cX6_write 39 = .ok (.invokevirtual 137, 3) := by decide +kernel
theorem dX6_write_42 : decode cX6_write 42 = .ok (.aload_n 0, 1) := by decide +kernel
theorem dX6_write_43 : decode cX6_write 43 = .ok (.aload_n 1, 1) := by decide +kernel
theorem dX6_write_44 : decode cX6_write 44 = .ok (.getfield 93, 3) := by decide +kernel
theorem dX6_write_47 : decode cX6_write 47 = .ok (.invokevirtual 143, 3) := by decide +kernel
theorem dX6_write_50 : decode cX6_write 50 = .ok (.aload_n 0, 1) := by decide +kernel
theorem dX6_write_51 : decode cX6_write 51 = .ok (.sipush 162, 3) := by decide +kernel
theorem dX6_write_54 : decode cX6_write 54 = .ok (.aload_n 0, 1) := by decide +kernel
theorem dX6_write_55 : decode cX6_write 55 = .ok (.aload_n 1, 1) := by decide +kernel
theorem dX6_write_56 : decode cX6_write 56 = .ok (.aload_n 0, 1) := by decide +kernel
theorem dX6_write_57 : decode cX6_write 57 = .ok (.getfield 47, 3) := by decide +kernel
theorem dX6_write_60 : decode cX6_write 60 = .ok (.invokevirtual 100, 3) := by decide +kernel
theorem dX6_write_63 : decode cX6_write 63 = .ok (.invokevirtual 137, 3) := by decide +kernel
theorem dX6_write_66 : decode cX6_write 66 = .ok (.aload_n 0, 1) := by decide +kernel
theorem dX6_write_67 : decode cX6_write 67 = .ok (.aload_n 1, 1) := by decide +kernel
theorem dX6_write_68 : decode cX6_write 68 = .ok (.getfield 103, 3) := by decide +kernel
theorem dX6_write_71 : decode cX6_write 71 = .ok (.invokevirtual 140, 3) := by decide +kernel
theorem dX6_write_74 : decode cX6_write 74 = .ok (.aload_n 0, 1) := by decide +kernel
theorem dX6_write_75 : decode cX6_write 75 = .ok (.aload_n 0, 1) := by decide +kernel
theorem dX6_write_76 : decode cX6_write 76 = .ok (.getfield 34, 3) := by decide +kernel
theorem dX6_write_79 : decode cX6_write 79 = .ok (.invokevirtual 140, 3) := by decide +kernel
theorem dX6_write_82 : decode cX6_write 82 = .ok (.aload_n 0, 1) := by decide +kernel
theorem dX6_write_83 : decode cX6_write 83 = .ok (.aload_n 0, 1) := by decide +kernel
theorem dX6_write_84 : decode cX6_write 84 = .ok (.getfield 50, 3) := by decide +kernel
theorem dX6_write_87 : decode cX6_write 87 = .ok (.invokevirtual 140, 3) := by decide +kernel
theorem dX6_write_90 : decode cX6_write 90 = .ok (.aload_n 0, 1) := by decide +kernel
theorem dX6_write_91 : decode cX6_write 91 = .ok (.bipush 48, 2) := by decide +kernel
theorem dX6_write_93 : decode cX6_write 93 = .ok (.aload_n 0, 1) := by decide +kernel
theorem dX6_write_94 : decode cX6_write 94 = .ok (.getfield 47, 3) := by decide +kernel
theorem dX6_write_97 : decode cX6_write 97 = .ok (.invokevirtual 137, 3) := by decide +kernel
theorem dX6_write_100 : decode cX6_write 100 = .ok (.iconst 0, 1) := by decide +kernel
theorem dX6_write_101 : decode cX6_write 101 = .ok (.istore_n 2, 1) := by decide +kernel
theorem dX6_write_102 : decode cX6_write 102 = .ok (.iload_n 2, 1) := by decide +kernel
theorem dX6_write_103 : decode cX6_write 103 = .ok (.aload_n 0, 1) := by decide +kernel
theorem dX6_write_104 : decode cX6_write 104 = .ok (.getfield 38, 3) := by decide +kernel
theorem dX6_write_107 : decode cX6_write 107 = .ok (.if_icmp .ge 24, 3) := by decide +kernel
theorem dX6_write_110 : decode cX6_write 110 = .ok (.aload_n 0, 1) := by decide +kernel
theorem dX6_write_111 : decode cX6_write 111 = .ok (.iload_n 2, 1) := by decide +kernel
theorem dX6_write_112 : decode cX6_write 112 = .ok (.invokevirtual 146, 3) := by decide +kernel
theorem dX6_write_115 : decode cX6_write 115 = .ok (.astore_n 3, 1) := by decide +kernel
theorem dX6_write_116 : decode cX6_write 116 = .ok (.aload_n 3, 1) := by decide +kernel
theorem dX6_write_117 : decode cX6_write 117 = .ok (.ifnull 8, 3) := by decide +kernel
theorem dX6_write_120 : decode cX6_write 120 = .ok (.aload_n 0, 1) := by decide +kernel
theorem dX6_write_121 : decode cX6_write 121 = .ok (.aload_n 3, 1) := by decide +kernel
theorem dX6_write_122 : decode cX6_write 122 = .ok (.invokevirtual 147, 3) := by decide +kernel
theorem dX6_write_125 : decode cX6_write 125 = .ok (.iinc 2 1, 3) := by decide +kernel
theorem dX6_write_128 : decode cX6_write 128 = .ok (.goto (-26), 3) := by decide +kernel
theorem dX6_write_131 : decode cX6_write 131 = .ok (.return_, 1) := by decide +kernel
theorem dX6_putPair_0 : decode cX6_putPair 0 = .ok (.aload_n 0, 1) := by decide +kernel
theorem dX6_putPair_1 : decode cX6_putPair 1 = .ok (.bipush 48, 2) := by decide +kernel
theorem dX6_putPair_3 : decode cX6_putPair 3 = .ok (.aload_n 1, 1) := by decide +kernel
theorem dX6_putPair_4 : decode cX6_putPair 4 = .ok (.getfield 53, 3) := by decide +kernel
theorem dX6_putPair_7 : decode cX6_putPair 7 = .ok (.aload_n 1, 1) := by decide +kernel
theorem dX6_putPair_8 : decode cX6_putPair 8 = .ok (.getfield 60, 3) := by decide +kernel
theorem dX6_putPair_11 : decode cX6_putPair 11 = .ok (.invokestatic 64, 3) := by decide +kernel
theorem dX6_putPair_14 : decode cX6_putPair 14 = .ok (.invokevirtual 137, 3) := by decide +kernel
theorem dX6_putPair_17 : decode cX6_putPair 17 = .ok (.aload_n 0, 1) := by decide +kernel
theorem dX6_putPair_18 : decode cX6_putPair 18 = .ok (.bipush 6, 2) := by decide +kernel
theorem dX6_putPair_20 : decode cX6_putPair 20 = .ok (.aload_n 1, 1) := by decide +kernel
theorem dX6_putPair_21 : decode cX6_putPair 21 = .ok (.getfield 53, 3) := by decide +kernel
theorem dX6_putPair_24 : decode cX6_putPair 24 = .ok (.invokestatic 110, 3) := by decide +kernel
theorem dX6_putPair_27 : decode cX6_putPair 27 = .ok (.invokevirtual 137, 3) := by decide +kernel
theorem dX6_putPair_30 : decode cX6_putPair 30 = .ok (.aload_n 0, 1) := by decide +kernel
theorem dX6_putPair_31 : decode cX6_putPair 31 = .ok (.aload_n 1, 1) := by decide +kernel
theorem dX6_putPair_32 : decode cX6_putPair 32 = .ok (.getfield 53, 3) := by decide +kernel
theorem dX6_putPair_35 : decode cX6_putPair 35 = .ok (.invokevirtual 151, 3) := by decide +kernel
theorem dX6_putPair_38 : decode cX6_putPair 38 = .ok (.aload_n 1, 1) := by decide +kernel
theorem dX6_putPair_39 : decode cX6_putPair 39 = .ok (.getfield 60, 3) := by decide +kernel
theorem dX6_putPair_42 : decode cX6_putPair 42 = .ok (.invokestatic 114, 3) := by decide +kernel
theorem dX6_putPair_45 : decode cX6_putPair 45 = .ok (.istore_n 2, 1) := by decide +kernel
theorem dX6_putPair_46 : decode cX6_putPair 46 = .ok (.aload_n 0, 1) := by decide +kernel
theorem dX6_putPair_47 : decode cX6_putPair 47 = .ok (.aload_n 1, 1) := by decide +kernel
theorem dX6_putPair_48 : decode cX6_putPair 48 = .ok (.getfield 60, 3) := by decide +kernel
theorem dX6_putPair_51 : decode cX6_putPair 51 = .ok (.getfield 118, 3) := by decide +kernel
theorem dX6_putPair_54 : decode cX6_putPair 54 = .ok (.iload_n 2, 1) := by decide +kernel
theorem dX6_putPair_55 : decode cX6_putPair 55 = .ok (.invokevirtual 137, 3) := by decide +kernel
theorem dX6_putPair_58 : decode cX6_putPair 58 = .ok (.aload_n 1, 1) := by decide +kernel
theorem dX6_putPair_59 : decode cX6_putPair 59 = .ok (.getfield 60, 3) := by decide +kernel
theorem dX6_putPair_62 : decode cX6_putPair 62 = .ok (.getfield 118, 3) := by decide +kernel
theorem dX6_putPair_65 : decode cX6_putPair 65 = .ok (.bipush 6, 2) := by decide +kernel
theorem dX6_putPair_67 : decode cX6_putPair 67 = .ok (.if_icmp .ne 17, 3) := by decide +kernel
theorem dX6_putPair_70 : decode cX6_putPair 70 = .ok (.aload_n 0, 1) := by decide +kernel
theorem dX6_putPair_71 : decode cX6_putPair 71 = .ok (.aload_n 1, 1) := by decide +kernel
theorem dX6_putPair_72 : decode cX6_putPair 72 = .ok (.getfield 60, 3) := by decide +kernel
theorem dX6_putPair_75 : decode cX6_putPair 75 = .ok (.getfield 121, 3) := by decide +kernel
theorem dX6_putPair_78 : decode cX6_putPair 78 = .ok (.invokevirtual 151, 3) := by decide +kernel
theorem dX6_putPair_81 : decode cX6_putPair 81 = .ok (.goto 40, 3) := by decide +kernel
theorem dX6_putPair_84 : decode cX6_putPair 84 = .ok (.aload_n 1, 1) := by decide +kernel
theorem dX6_putPair_85 : decode cX6_putPair 85 = .ok (.getfield 60, 3) := by decide +kernel
theorem dX6_putPair_88 : decode cX6_putPair 88 = .ok (.getfield 118, 3) := by decide +kernel
theorem dX6_putPair_91 : decode cX6_putPair 91 = .ok (.iconst 4, 1) := by decide +kernel
theorem dX6_putPair_92 : decode cX6_putPair 92 = .ok (.if_icmp .ne 17, 3) := by decide +kernel
theorem dX6_putPair_95 : decode cX6_putPair 95 = .ok (.aload_n 0, 1) := by decide +kernel
theorem dX6_putPair_96 : decode cX6_putPair 96 = .ok (.aload_n 1, 1) := by decide +kernel
theorem dX6_putPair_97 : decode cX6_putPair 97 = .ok (.getfield 60, 3) := by decide +kernel
theorem dX6_putPair_100 : decode cX6_putPair 100 = .ok (.getfield 121, 3) := by decide +kernel
theorem dX6_putPair_103 : decode cX6_putPair 103 = .ok (.invokevirtual 143, 3) := by decide +kernel
theorem dX6_putPair_106 : decode cX6_putPair 106 = .ok (.goto 15, 3) := by decide +kernel
theorem dX6_putPair_109 : decode cX6_putPair 109 = .ok (.aload_n 0, 1) := by decide +kernel
theorem dX6_putPair_110 : decode cX6_putPair 110 = .ok (.aload_n 1, 1) := by decide +kernel
theorem dX6_putPair_111 : decode cX6_putPair 111 = .ok (.getfield 60, 3) := by decide +kernel
theorem dX6_putPair_114 : decode cX6_putPair 114 = .ok (.getfield 124, 3) := by decide +kernel
theorem dX6_putPair_117 : decode cX6_putPair 117 = .ok (.iload_n 2, 1) := by decide +kernel
theorem dX6_putPair_118 : decode cX6_putPair 118 = .ok (.invokevirtual 154, 3) := by decide +kernel
theorem dX6_putPair_121 : decode cX6_putPair 121 = .ok (.return_, 1) := by decide +kernel
theorem dX6_putHead_0 : decode cX6_putHead 0 = .ok (.aload_n 0, 1) := by decide +kernel
theorem dX6_putHead_1 : decode cX6_putHead 1 = .ok (.getfield 14, 3) := by decide +kernel
theorem dX6_putHead_4 : decode cX6_putHead 4 = .ok (.iload_n 1, 1) := by decide +kernel
theorem dX6_putHead_5 : decode cX6_putHead 5 = .ok (.i2l, 1) := by decide +kernel
theorem dX6_putHead_6 : decode cX6_putHead 6 = .ok (.invokevirtual 158, 3) := by decide +kernel
theorem dX6_putHead_9 : decode cX6_putHead 9 = .ok (.pop, 1) := by decide +kernel
theorem dX6_putHead_10 : decode cX6_putHead 10 = .ok (.iload_n 2, 1) := by decide +kernel
theorem dX6_putHead_11 : decode cX6_putHead 11 = .ok (.sipush 128, 3) := by decide +kernel
theorem dX6_putHead_14 : decode cX6_putHead 14 = .ok (.if_icmp .lt 27, 3) := by decide +kernel
theorem dX6_putHead_17 : decode cX6_putHead 17 = .ok (.aload_n 0, 1) := by decide +kernel
theorem dX6_putHead_18 : decode cX6_putHead 18 = .ok (.getfield 14, 3) := by decide +kernel
theorem dX6_putHead_21 : decode cX6_putHead 21 = .ok (.iload_n 2, 1) := by decide +kernel
theorem dX6_putHead_22 : decode cX6_putHead 22 = .ok (.sipush 256, 3) := by decide +kernel
theorem dX6_putHead_25 : decode cX6_putHead 25 = .ok (.if_icmp .ge 9, 3) := by decide +kernel
theorem dX6_putHead_28 : decode cX6_putHead 28 = .ok (.ldc2_w 162, 3) := by decide +kernel
theorem dX6_putHead_31 : decode cX6_putHead 31 = .ok (.goto 6, 3) := by decide +kernel
theorem dX6_putHead_34 : decode cX6_putHead 34 = .ok (.ldc2_w 164, 3) := by decide +kernel
theorem dX6_putHead_37 : decode cX6_putHead 37 = .ok (.invokevirtual 158, 3) := by decide +kernel
theorem dX6_putHead_40 : decode cX6_putHead 40 = .ok (.pop, 1) := by decide +kernel
theorem dX6_putHead_41 : decode cX6_putHead 41 = .ok (.iload_n 2, 1) := by decide +kernel
theorem dX6_putHead_42 : decode cX6_putHead 42 = .ok (.sipush 256, 3) := by decide +kernel
theorem dX6_putHead_45 : decode cX6_putHead 45 = .ok (.if_icmp .lt 20, 3) := by decide +kernel
theorem dX6_putHead_48 : decode cX6_putHead 48 = .ok (.aload_n 0, 1) := by decide +kernel
theorem dX6_putHead_49 : decode cX6_putHead 49 = .ok (.getfield 14, 3) := by decide +kernel
theorem dX6_putHead_52 : decode cX6_putHead 52 = .ok (.iload_n 2, 1) := by decide +kernel
theorem dX6_putHead_53 : decode cX6_putHead 53 = .ok (.bipush 8, 2) := by decide +kernel
theorem dX6_putHead_55 : decode cX6_putHead 55 = .ok (.iushr, 1) := by decide +kernel
theorem dX6_putHead_56 : decode cX6_putHead 56 = .ok (.i2l, 1) := by decide +kernel
theorem dX6_putHead_57 : decode cX6_putHead 57 = .ok (.ldc2_w 166, 3) := by decide +kernel
theorem dX6_putHead_60 : decode cX6_putHead 60 = .ok (.land, 1) := by decide +kernel
theorem dX6_putHead_61 : decode cX6_putHead 61 = .ok (.invokevirtual 158, 3) := by decide +kernel
theorem dX6_putHead_64 : decode cX6_putHead 64 = .ok (.pop, 1) := by decide +kernel
theorem dX6_putHead_65 : decode cX6_putHead 65 = .ok (.aload_n 0, 1) := by decide +kernel
theorem dX6_putHead_66 : decode cX6_putHead 66 = .ok (.getfield 14, 3) := by decide +kernel
theorem dX6_putHead_69 : decode cX6_putHead 69 = .ok (.iload_n 2, 1) := by decide +kernel
theorem dX6_putHead_70 : decode cX6_putHead 70 = .ok (.i2l, 1) := by decide +kernel
theorem dX6_putHead_71 : decode cX6_putHead 71 = .ok (.ldc2_w 166, 3) := by decide +kernel
theorem dX6_putHead_74 : decode cX6_putHead 74 = .ok (.land, 1) := by decide +kernel
theorem dX6_putHead_75 : decode cX6_putHead 75 = .ok (.invokevirtual 158, 3) := by decide +kernel
theorem dX6_putHead_78 : decode cX6_putHead 78 = .ok (.pop, 1) := by decide +kernel
theorem dX6_putHead_79 : decode cX6_putHead 79 = .ok (.return_, 1) := by decide +kernel
theorem dX6_putInteger_0 : decode cX6_putInteger 0 = .ok (.iload_n 1, 1) := by decide +kernel
theorem dX6_putInteger_1 : decode cX6_putInteger 1 = .ok (.i2l, 1) := by decide +kernel
theorem dX6_putInteger_2 : decode cX6_putInteger 2 = .ok (.invokestatic 106, 3) := by decide +kernel
theorem dX6_putInteger_5 : decode cX6_putInteger 5 = .ok (.istore_n 2, 1) := by decide +kernel
theorem dX6_putInteger_6 : decode cX6_putInteger 6 = .ok (.aload_n 0, 1) := by decide +kernel
theorem dX6_putInteger_7 : decode cX6_putInteger 7 = .ok (.iconst 2, 1) := by decide +kernel
theorem dX6_putInteger_8 : decode cX6_putInteger 8 = .ok (.iload_n 2, 1) := by decide +kernel
theorem dX6_putInteger_9 : decode cX6_putInteger 9 = .ok (.invokevirtual 137, 3) := by decide +kernel
theorem dX6_putInteger_12 : decode cX6_putInteger 12 = .ok (.aload_n 0, 1) := by decide +kernel
theorem dX6_putInteger_13 : decode cX6_putInteger 13 = .ok (.iload_n 1, 1) := by decide +kernel
theorem dX6_putInteger_14 : decode cX6_putInteger 14 = .ok (.i2l, 1) := by decide +kernel
theorem dX6_putInteger_15 : decode cX6_putInteger 15 = .ok (.iload_n 2, 1) := by decide +kernel
theorem dX6_putInteger_16 : decode cX6_putInteger 16 = .ok (.invokevirtual 154, 3) := by decide +kernel
theorem dX6_putInteger_19 : decode cX6_putInteger 19 = .ok (.return_, 1) := by decide +kernel
theorem dX6_putNumber_0 : decode cX6_putNumber 0 = .ok (.iload_n 3, 1) := by decide +kernel
theorem dX6_putNumber_1 : decode cX6_putNumber 1 = .ok (.iconst 1, 1) := by decide +kernel
theorem dX6_putNumber_2 : decode cX6_putNumber 2 = .ok (.isub, 1) := by decide +kernel
theorem dX6_putNumber_3 : decode cX6_putNumber 3 = .ok (.istore 4, 2) := by decide +kernel
theorem dX6_putNumber_5 : decode cX6_putNumber 5 = .ok (.iload 4, 2) := by decide +kernel
theorem dX6_putNumber_7 : decode cX6_putNumber 7 = .ok (.ifCond .lt 39, 3) := by decide +kernel
theorem dX6_putNumber_10 : decode cX6_putNumber 10 = .ok (.aload_n 0, 1) := by decide +kernel
theorem dX6_putNumber_11 : decode cX6_putNumber 11 = .ok (.getfield 14, 3) := by decide +kernel
theorem dX6_putNumber_14 : decode cX6_putNumber 14 = .ok (.iload 4, 2) := by decide +kernel
theorem dX6_putNumber_16 : decode cX6_putNumber 16 = .ok (.bipush 8, 2) := by decide +kernel
theorem dX6_putNumber_18 : decode cX6_putNumber 18 = .ok (.if_icmp .lt 7, 3) := by decide +kernel
theorem dX6_putNumber_21 : decode cX6_putNumber 21 = .ok (.lconst 0, 1) := by decide +kernel
theorem dX6_putNumber_22 : decode cX6_putNumber 22 = .ok (.goto 14, 3) := by decide +kernel
theorem dX6_putNumber_25 : decode cX6_putNumber 25 = .ok (.lload_n 1, 1) := by decide +kernel
theorem dX6_putNumber_26 : decode cX6_putNumber 26 = .ok (.bipush 8, 2) := by decide +kernel
theorem dX6_putNumber_28 : decode cX6_putNumber 28 = .ok (.iload 4, 2) := by decide +kernel
theorem dX6_putNumber_30 : decode cX6_putNumber 30 = .ok (.imul, 1) := by decide +kernel
theorem dX6_putNumber_31 : decode cX6_putNumber 31 = .ok (.lushr, 1) := by decide +kernel
theorem dX6_putNumber_32 : decode cX6_putNumber 32 = .ok (.ldc2_w 166, 3) := by decide +kernel
theorem dX6_putNumber_35 : decode cX6_putNumber 35 = .ok (.land, 1) := by decide +kernel
theorem dX6_putNumber_36 : decode cX6_putNumber 36 = .ok (.invokevirtual 158, 3) := by decide +kernel
theorem dX6_putNumber_39 : decode cX6_putNumber 39 = .ok (.pop, 1) := by decide +kernel
theorem dX6_putNumber_40 : decode cX6_putNumber 40 = .ok (.iinc 4 (-1), 3) := by decide +kernel
theorem dX6_putNumber_43 : decode cX6_putNumber 43 = .ok (.goto (-38), 3) := by decide +kernel
theorem dX6_putNumber_46 : decode cX6_putNumber 46 = .ok (.return_, 1) := by decide +kernel
theorem dX6_putParts_0 : decode cX6_putParts 0 = .ok (.iconst 0, 1) := by decide +kernel
theorem dX6_putParts_1 : decode cX6_putParts 1 = .ok (.istore_n 2, 1) := by decide +kernel
theorem dX6_putParts_2 : decode cX6_putParts 2 = .ok (.iload_n 2, 1) := by decide +kernel
theorem dX6_putParts_3 : decode cX6_putParts 3 = .ok (.aload_n 1, 1) := by decide +kernel
theorem dX6_putParts_4 : decode cX6_putParts 4 = .ok (.invokevirtual 96, 3) := by decide +kernel
theorem dX6_putParts_7 : decode cX6_putParts 7 = .ok (.if_icmp .ge 22, 3) := by decide +kernel
theorem dX6_putParts_10 : decode cX6_putParts 10 = .ok (.aload_n 0, 1) := by decide +kernel
theorem dX6_putParts_11 : decode cX6_putParts 11 = .ok (.getfield 14, 3) := by decide +kernel
theorem dX6_putParts_14 : decode cX6_putParts 14 = .ok (.aload_n 1, 1) := by decide +kernel
theorem dX6_putParts_15 : decode cX6_putParts 15 = .ok (.iload_n 2, 1) := by decide +kernel
theorem dX6_putParts_16 : decode cX6_putParts 16 = .ok (.invokevirtual 130, 3) := by decide +kernel
theorem dX6_putParts_19 : decode cX6_putParts 19 = .ok (.invokevirtual 158, 3) := by decide +kernel
theorem dX6_putParts_22 : decode cX6_putParts 22 = .ok (.pop, 1) := by decide +kernel
theorem dX6_putParts_23 : decode cX6_putParts 23 = .ok (.iinc 2 1, 3) := by decide +kernel
theorem dX6_putParts_26 : decode cX6_putParts 26 = .ok (.goto (-24), 3) := by decide +kernel
theorem dX6_putParts_29 : decode cX6_putParts 29 = .ok (.return_, 1) := by decide +kernel
theorem dX6_putName_0 : decode cX6_putName 0 = .ok (.aload_n 0, 1) := by decide +kernel
theorem dX6_putName_1 : decode cX6_putName 1 = .ok (.getfield 14, 3) := by decide +kernel
theorem dX6_putName_4 : decode cX6_putName 4 = .ok (.ldc2_w 168, 3) := by decide +kernel
theorem dX6_putName_7 : decode cX6_putName 7 = .ok (.aload_n 1, 1) := by decide +kernel
theorem dX6_putName_8 : decode cX6_putName 8 = .ok (.iconst 0, 1) := by decide +kernel
theorem dX6_putName_9 : decode cX6_putName 9 = .ok (.invokevirtual 130, 3) := by decide +kernel
theorem dX6_putName_12 : decode cX6_putName 12 = .ok (.lmul, 1) := by decide +kernel
theorem dX6_putName_13 : decode cX6_putName 13 = .ok (.aload_n 1, 1) := by decide +kernel
theorem dX6_putName_14 : decode cX6_putName 14 = .ok (.iconst 1, 1) := by decide +kernel
theorem dX6_putName_15 : decode cX6_putName 15 = .ok (.invokevirtual 130, 3) := by decide +kernel
theorem dX6_putName_18 : decode cX6_putName 18 = .ok (.ladd, 1) := by decide +kernel
theorem dX6_putName_19 : decode cX6_putName 19 = .ok (.invokevirtual 158, 3) := by decide +kernel
theorem dX6_putName_22 : decode cX6_putName 22 = .ok (.pop, 1) := by decide +kernel
theorem dX6_putName_23 : decode cX6_putName 23 = .ok (.iconst 2, 1) := by decide +kernel
theorem dX6_putName_24 : decode cX6_putName 24 = .ok (.istore_n 2, 1) := by decide +kernel
theorem dX6_putName_25 : decode cX6_putName 25 = .ok (.iload_n 2, 1) := by decide +kernel
theorem dX6_putName_26 : decode cX6_putName 26 = .ok (.aload_n 1, 1) := by decide +kernel
theorem dX6_putName_27 : decode cX6_putName 27 = .ok (.invokevirtual 96, 3) := by decide +kernel
theorem dX6_putName_30 : decode cX6_putName 30 = .ok (.if_icmp .ge 66, 3) := by decide +kernel
theorem dX6_putName_33 : decode cX6_putName 33 = .ok (.aload_n 1, 1) := by decide +kernel
theorem dX6_putName_34 : decode cX6_putName 34 = .ok (.iload_n 2, 1) := by decide +kernel
theorem dX6_putName_35 : decode cX6_putName 35 = .ok (.invokevirtual 130, 3) := by decide +kernel
theorem dX6_putName_38 : decode cX6_putName 38 = .ok (.lstore_n 3, 1) := by decide +kernel
theorem dX6_putName_39 : decode cX6_putName 39 = .ok (.lload_n 3, 1) := by decide +kernel
theorem dX6_putName_40 : decode cX6_putName 40 = .ok (.invokestatic 134, 3) := by decide +kernel
theorem dX6_putName_43 : decode cX6_putName 43 = .ok (.iconst 1, 1) := by decide +kernel
theorem dX6_putName_44 : decode cX6_putName 44 = .ok (.isub, 1) := by decide +kernel
theorem dX6_putName_45 : decode cX6_putName 45 = .ok (.istore 5, 2) := by decide +kernel
theorem dX6_putName_47 : decode cX6_putName 47 = .ok (.iload 5, 2) := by decide +kernel
theorem dX6_putName_49 : decode cX6_putName 49 = .ok (.ifCond .lt 41, 3) := by decide +kernel
theorem dX6_putName_52 : decode cX6_putName 52 = .ok (.aload_n 0, 1) := by decide +kernel
theorem dX6_putName_53 : decode cX6_putName 53 = .ok (.getfield 14, 3) := by decide +kernel
theorem dX6_putName_56 : decode cX6_putName 56 = .ok (.lload_n 3, 1) := by decide +kernel
theorem dX6_putName_57 : decode cX6_putName 57 = .ok (.bipush 7, 2) := by decide +kernel
theorem dX6_putName_59 : decode cX6_putName 59 = .ok (.iload 5, 2) := by decide +kernel
theorem dX6_putName_61 : decode cX6_putName 61 = .ok (.imul, 1) := by decide +kernel
theorem dX6_putName_62 : decode cX6_putName 62 = .ok (.lushr, 1) := by decide +kernel
theorem dX6_putName_63 : decode cX6_putName 63 = .ok (.ldc2_w 170, 3) := by decide +kernel
theorem dX6_putName_66 : decode cX6_putName 66 = .ok (.land, 1) := by decide +kernel
theorem dX6_putName_67 : decode cX6_putName 67 = .ok (.iload 5, 2) := by decide +kernel
theorem dX6_putName_69 : decode cX6_putName 69 = .ok (.ifCond .le 9, 3) := by decide +kernel
theorem dX6_putName_72 : decode cX6_putName 72 = .ok (.ldc2_w 172, 3) := by decide +kernel
theorem dX6_putName_75 : decode cX6_putName 75 = .ok (.goto 4, 3) := by decide +kernel
theorem dX6_putName_78 : decode cX6_putName 78 = .ok (.lconst 0, 1) := by decide +kernel
theorem dX6_putName_79 : decode cX6_putName 79 = .ok (.lor, 1) := by decide +kernel
theorem dX6_putName_80 : decode cX6_putName 80 = .ok (.invokevirtual 158, 3) := by decide +kernel
theorem dX6_putName_83 : decode cX6_putName 83 = .ok (.pop, 1) := by decide +kernel
theorem dX6_putName_84 : decode cX6_putName 84 = .ok (.iinc 5 (-1), 3) := by decide +kernel
theorem dX6_putName_87 : decode cX6_putName 87 = .ok (.goto (-40), 3) := by decide +kernel
theorem dX6_putName_90 : decode cX6_putName 90 = .ok (.iinc 2 1, 3) := by decide +kernel
theorem dX6_putName_93 : decode cX6_putName 93 = .ok (.goto (-68), 3) := by decide +kernel
theorem dX6_putName_96 : decode cX6_putName 96 = .ok (.return_, 1) := by decide +kernel
theorem dX7_init_0 : decode cX7_init 0 = .ok (.aload_n 0, 1) := by decide +kernel
theorem dX7_init_1 : decode cX7_init 1 = .ok (.invokespecial 3, 3) := by decide +kernel
theorem dX7_init_4 : decode cX7_init 4 = .ok (.aload_n 0, 1) := by decide +kernel
theorem dX7_init_5 : decode cX7_init 5 = .ok (.new 9, 3) := by decide +kernel
theorem dX7_init_8 : decode cX7_init 8 = .ok (.dup, 1) := by decide +kernel
theorem dX7_init_9 : decode cX7_init 9 = .ok (.bipush 16, 2) := by decide +kernel
theorem dX7_init_11 : decode cX7_init 11 = .ok (.invokespecial 11, 3) := by decide +kernel
theorem dX7_init_14 : decode cX7_init 14 = .ok (.putfield 14, 3) := by decide +kernel
theorem dX7_init_17 : decode cX7_init 17 = .ok (.aload_n 0, 1) := by decide +kernel
theorem dX7_init_18 : decode cX7_init 18 = .ok (.bipush 6, 2) := by decide +kernel
theorem dX7_init_20 : decode cX7_init 20 = .ok (.anewarray 20, 3) := by decide +kernel
theorem dX7_init_23 : decode cX7_init 23 = .ok (.putfield 22, 3) := by decide +kernel
theorem dX7_init_26 : decode cX7_init 26 = .ok (.aload_n 0, 1) := by decide +kernel
theorem dX7_init_27 : decode cX7_init 27 = .ok (.bipush 16, 2) := by decide +kernel
theorem dX7_init_29 : decode cX7_init 29 = .ok (.newarray .int, 2) := by decide +kernel
theorem dX7_init_31 : decode cX7_init 31 = .ok (.putfield 26, 3) := by decide +kernel
theorem dX7_init_34 : decode cX7_init 34 = .ok (.aload_n 0, 1) := by decide +kernel
theorem dX7_init_35 : decode cX7_init 35 = .ok (.getfield 14, 3) := by decide +kernel
theorem dX7_init_38 : decode cX7_init 38 = .ok (.aload_n 1, 1) := by decide +kernel
theorem dX7_init_39 : decode cX7_init 39 = .ok (.invokevirtual 30, 3) := by decide +kernel
theorem dX7_init_42 : decode cX7_init 42 = .ok (.return_, 1) := by decide +kernel
theorem dX7_columnCount_0 : decode cX7_columnCount 0 = .ok (.aload_n 0, 1) := by decide +kernel
theorem dX7_columnCount_1 : decode cX7_columnCount 1 = .ok (.getfield 34, 3) := by decide +kernel
theorem dX7_columnCount_4 : decode cX7_columnCount 4 = .ok (.ireturn, 1) := by decide +kernel
theorem dX7_rowCount_0 : decode cX7_rowCount 0 = .ok (.aload_n 0, 1) := by decide +kernel
theorem dX7_rowCount_1 : decode cX7_rowCount 1 = .ok (.getfield 38, 3) := by decide +kernel
theorem dX7_rowCount_4 : decode cX7_rowCount 4 = .ok (.ireturn, 1) := by decide +kernel
theorem dX7_hasColumn_0 : decode cX7_hasColumn 0 = .ok (.iconst 0, 1) := by decide +kernel
theorem dX7_hasColumn_1 : decode cX7_hasColumn 1 = .ok (.istore_n 2, 1) := by decide +kernel
theorem dX7_hasColumn_2 : decode cX7_hasColumn 2 = .ok (.iload_n 2, 1) := by decide +kernel
theorem dX7_hasColumn_3 : decode cX7_hasColumn 3 = .ok (.aload_n 0, 1) := by decide +kernel
theorem dX7_hasColumn_4 : decode cX7_hasColumn 4 = .ok (.getfield 22, 3) := by decide +kernel
theorem dX7_hasColumn_7 : decode cX7_hasColumn 7 = .ok (.arraylength, 1) := by decide +kernel
theorem dX7_hasColumn_8 : decode cX7_hasColumn 8 = .ok (.if_icmp .ge 42, 3) := by decide +kernel
theorem dX7_hasColumn_11 : decode cX7_hasColumn 11 = .ok (.aload_n 0, 1) := by decide +kernel
theorem dX7_hasColumn_12 : decode cX7_hasColumn 12 = .ok (.getfield 22, 3) := by decide +kernel
theorem dX7_hasColumn_15 : decode cX7_hasColumn 15 = .ok (.iload_n 2, 1) := by decide +kernel
theorem dX7_hasColumn_16 : decode cX7_hasColumn 16 = .ok (.aaload, 1) := by decide +kernel
theorem dX7_hasColumn_17 : decode cX7_hasColumn 17 = .ok (.astore_n 3, 1) := by decide +kernel
theorem dX7_hasColumn_18 : decode cX7_hasColumn 18 = .ok (.aload_n 3, 1) := by decide +kernel
theorem dX7_hasColumn_19 : decode cX7_hasColumn 19 = .ok (.ifnull 25, 3) := by decide +kernel
theorem dX7_hasColumn_22 : decode cX7_hasColumn 22 = .ok (.aload_n 3, 1) := by decide +kernel
theorem dX7_hasColumn_23 : decode cX7_hasColumn 23 = .ok (.getfield 41, 3) := by decide +kernel
theorem dX7_hasColumn_26 : decode cX7_hasColumn 26 = .ok (.aload_n 0, 1) := by decide +kernel
theorem dX7_hasColumn_27 : decode cX7_hasColumn 27 = .ok (.getfield 14, 3) := by decide +kernel
theorem dX7_hasColumn_30 : decode cX7_hasColumn 30 = .ok (.invokevirtual 42, 3) := by decide +kernel
theorem dX7_hasColumn_33 : decode cX7_hasColumn 33 = .ok (.invokevirtual 46, 3) := by decide +kernel
theorem dX7_hasColumn_36 : decode cX7_hasColumn 36 = .ok (.iload_n 1, 1) := by decide +kernel
theorem dX7_hasColumn_37 : decode cX7_hasColumn 37 = .ok (.i2l, 1) := by decide +kernel
theorem dX7_hasColumn_38 : decode cX7_hasColumn 38 = .ok (.lcmp, 1) := by decide +kernel
theorem dX7_hasColumn_39 : decode cX7_hasColumn 39 = .ok (.ifCond .ne 5, 3) := by decide +kernel
theorem dX7_hasColumn_42 : decode cX7_hasColumn 42 = .ok (.iconst 1, 1) := by decide +kernel
theorem dX7_hasColumn_43 : decode cX7_hasColumn 43 = .ok (.ireturn, 1) := by decide +kernel
theorem dX7_hasColumn_44 : decode cX7_hasColumn 44 = .ok (.iinc 2 1, 3) := by decide +kernel
theorem dX7_hasColumn_47 : decode cX7_hasColumn 47 = .ok (.goto (-45), 3) := by decide +kernel
theorem dX7_hasColumn_50 : decode cX7_hasColumn 50 = .ok (.iconst 0, 1) := by decide +kernel
theorem dX7_hasColumn_51 : decode cX7_hasColumn 51 = .ok (.ireturn, 1) := by decide +kernel
theorem dX7_addColumn_0 : decode cX7_addColumn 0 = .ok (.aload_n 0, 1) := by decide +kernel
theorem dX7_addColumn_1 : decode cX7_addColumn 1 = .ok (.getfield 34, 3) := by decide +kernel
theorem dX7_addColumn_4 : decode cX7_addColumn 4 = .ok (.ifCond .lt 35, 3) := by decide +kernel
theorem dX7_addColumn_7 : decode cX7_addColumn 7 = .ok (.aload_n 0, 1) := by decide +kernel
theorem dX7_addColumn_8 : decode cX7_addColumn 8 = .ok (.getfield 34, 3) := by decide +kernel
theorem dX7_addColumn_11 : decode cX7_addColumn 11 = .ok (.aload_n 0, 1) := by decide +kernel
theorem dX7_addColumn_12 : decode cX7_addColumn 12 = .ok (.getfield 22, 3) := by decide +kernel
theorem dX7_addColumn_15 : decode cX7_addColumn 15 = .ok (.arraylength, 1) := by decide +kernel
theorem dX7_addColumn_16 : decode cX7_addColumn 16 = .ok (.if_icmp .ge 23, 3) := by decide +kernel
theorem dX7_addColumn_19 : decode cX7_addColumn 19 = .ok (.aload_n 0, 1) := by decide +kernel
theorem dX7_addColumn_20 : decode cX7_addColumn 20 = .ok (.getfield 22, 3) := by decide +kernel
theorem dX7_addColumn_23 : decode cX7_addColumn 23 = .ok (.aload_n 0, 1) := by decide +kernel
theorem dX7_addColumn_24 : decode cX7_addColumn 24 = .ok (.getfield 34, 3) := by decide +kernel
theorem dX7_addColumn_27 : decode cX7_addColumn 27 = .ok (.aload_n 1, 1) := by decide +kernel
theorem dX7_addColumn_28 : decode cX7_addColumn 28 = .ok (.aastore, 1) := by decide +kernel
theorem dX7_addColumn_29 : decode cX7_addColumn 29 = .ok (.aload_n 0, 1) := by decide +kernel
theorem dX7_addColumn_30 : decode cX7_addColumn 30 = .ok (.dup, 1) := by decide +kernel
theorem dX7_addColumn_31 : decode cX7_addColumn 31 = .ok (.getfield 34, 3) := by decide +kernel
theorem dX7_addColumn_34 : decode cX7_addColumn 34 = .ok (.iconst 1, 1) := by decide +kernel
theorem dX7_addColumn_35 : decode cX7_addColumn 35 = .ok (.iadd, 1) := by decide +kernel
theorem dX7_addColumn_36 : decode cX7_addColumn 36 = .ok (.putfield 34, 3) := by decide +kernel
theorem dX7_addColumn_39 : decode cX7_addColumn 39 = .ok (.return_, 1) := by decide +kernel
theorem dX7_slotOf_0 : decode cX7_slotOf 0 = .ok (.lload_n 1, 1) := by decide +kernel
theorem dX7_slotOf_1 : decode cX7_slotOf 1 = .ok (.lconst 1, 1) := by decide +kernel
theorem dX7_slotOf_2 : decode cX7_slotOf 2 = .ok (.lcmp, 1) := by decide +kernel
theorem dX7_slotOf_3 : decode cX7_slotOf 3 = .ok (.ifCond .ge 7, 3) := by decide +kernel
theorem dX7_slotOf_6 : decode cX7_slotOf 6 = .ok (.iconst (-1), 1) := by decide +kernel
theorem dX7_slotOf_7 : decode cX7_slotOf 7 = .ok (.goto 8, 3) := by decide +kernel
theorem dX7_slotOf_10 : decode cX7_slotOf 10 = .ok (.aload_n 0, 1) := by decide +kernel
theorem dX7_slotOf_11 : decode cX7_slotOf 11 = .ok (.lload_n 1, 1) := by decide +kernel
theorem dX7_slotOf_12 : decode cX7_slotOf 12 = .ok (.invokevirtual 50, 3) := by decide +kernel
theorem dX7_slotOf_15 : decode cX7_slotOf 15 = .ok (.ireturn, 1) := by decide +kernel
theorem dX7_slotHolding_0 : decode cX7_slotHolding 0 = .ok (.iconst 0, 1) := by decide +kernel
theorem dX7_slotHolding_1 : decode cX7_slotHolding 1 = .ok (.istore_n 3, 1) := by decide +kernel
theorem dX7_slotHolding_2 : decode cX7_slotHolding 2 = .ok (.iload_n 3, 1) := by decide +kernel
theorem dX7_slotHolding_3 : decode cX7_slotHolding 3 = .ok (.aload_n 0, 1) := by decide +kernel
theorem dX7_slotHolding_4 : decode cX7_slotHolding 4 = .ok (.getfield 26, 3) := by decide +kernel
theorem dX7_slotHolding_7 : decode cX7_slotHolding 7 = .ok (.arraylength, 1) := by decide +kernel
theorem dX7_slotHolding_8 : decode cX7_slotHolding 8 = .ok (.if_icmp .ge 23, 3) := by decide +kernel
theorem dX7_slotHolding_11 : decode cX7_slotHolding 11 = .ok (.aload_n 0, 1) := by decide +kernel
theorem dX7_slotHolding_12 : decode cX7_slotHolding 12 = .ok (.getfield 26, 3) := by decide +kernel
theorem dX7_slotHolding_15 : decode cX7_slotHolding 15 = .ok (.iload_n 3, 1) := by decide +kernel
theorem dX7_slotHolding_16 : decode cX7_slotHolding 16 = .ok (.iaload, 1) := by decide +kernel
theorem dX7_slotHolding_17 : decode cX7_slotHolding 17 = .ok (.i2l, 1) := by decide +kernel
theorem dX7_slotHolding_18 : decode cX7_slotHolding 18 = .ok (.lload_n 1, 1) := by decide +kernel
theorem dX7_slotHolding_19 : decode cX7_slotHolding 19 = .ok (.lcmp, 1) := by decide +kernel
theorem dX7_slotHolding_20 : decode cX7_slotHolding 20 = .ok (.ifCond .ne 5, 3) := by decide +kernel
theorem dX7_slotHolding_23 : decode cX7_slotHolding 23 = .ok (.iload_n 3, 1) := by decide +kernel
theorem dX7_slotHolding_24 : decode cX7_slotHolding 24 = .ok (.ireturn, 1) := by decide +kernel
theorem dX7_slotHolding_25 : decode cX7_slotHolding 25 = .ok (.iinc 3 1, 3) := by decide +kernel
theorem dX7_slotHolding_28 : decode cX7_slotHolding 28 = .ok (.goto (-26), 3) := by decide +kernel
theorem dX7_slotHolding_31 : decode cX7_slotHolding 31 = .ok (.iconst (-1), 1) := by decide +kernel
theorem dX7_slotHolding_32 : decode cX7_slotHolding 32 = .ok (.ireturn, 1) := by decide +kernel
theorem dX7_make_0 : decode cX7_make 0 = .ok (.aload_n 0, 1) := by decide +kernel
theorem dX7_make_1 : decode cX7_make 1 = .ok (.lconst 0, 1) := by decide +kernel
theorem dX7_make_2 : decode cX7_make 2 = .ok (.invokevirtual 50, 3) := by decide +kernel
theorem dX7_make_5 : decode cX7_make 5 = .ok (.istore_n 3, 1) := by decide +kernel
theorem dX7_make_6 : decode cX7_make 6 = .ok (.iload_n 3, 1) := by decide +kernel
theorem dX7_make_7 : decode cX7_make 7 = .ok (.ifCond .lt 12, 3) := by decide +kernel
theorem dX7_make_10 : decode cX7_make 10 = .ok (.iload_n 3, 1) := by decide +kernel
theorem dX7_make_11 : decode cX7_make 11 = .ok (.aload_n 0, 1) := by decide +kernel
theorem dX7_make_12 : decode cX7_make 12 = .ok (.getfield 26, 3) := by decide +kernel
theorem dX7_make_15 : decode cX7_make 15 = .ok (.arraylength, 1) := by decide +kernel
theorem dX7_make_16 : decode cX7_make 16 = .ok (.if_icmp .lt 5, 3) := by decide +kernel
theorem dX7_make_19 : decode cX7_make 19 = .ok (.iconst 0, 1) := by decide +kernel
theorem dX7_make_20 : decode cX7_make 20 = .ok (.ireturn, 1) := by decide +kernel
theorem dX7_make_21 : decode cX7_make 21 = .ok (.aload_n 0, 1) := by decide +kernel
theorem dX7_make_22 : decode cX7_make 22 = .ok (.getfield 26, 3) := by decide +kernel
theorem dX7_make_25 : decode cX7_make 25 = .ok (.iload_n 3, 1) := by decide +kernel
theorem dX7_make_26 : decode cX7_make 26 = .ok (.iload_n 1, 1) := by decide +kernel
theorem dX7_make_27 : decode cX7_make 27 = .ok (.iastore, 1) := by decide +kernel
theorem dX7_make_28 : decode cX7_make 28 = .ok (.aload_n 0, 1) := by decide +kernel
theorem dX7_make_29 : decode cX7_make 29 = .ok (.dup, 1) := by decide +kernel
theorem dX7_make_30 : decode cX7_make 30 = .ok (.getfield 38, 3) := by decide +kernel
theorem dX7_make_33 : decode cX7_make 33 = .ok (.iconst 1, 1) := by decide +kernel
theorem dX7_make_34 : decode cX7_make 34 = .ok (.iadd, 1) := by decide +kernel
theorem dX7_make_35 : decode cX7_make 35 = .ok (.putfield 38, 3) := by decide +kernel
theorem dX7_make_38 : decode cX7_make 38 = .ok (.iconst 0, 1) := by decide +kernel
theorem dX7_make_39 : decode cX7_make 39 = .ok (.istore 4, 2) := by decide +kernel
theorem dX7_make_41 : decode cX7_make 41 = .ok (.iload 4, 2) := by decide +kernel
theorem dX7_make_43 : decode cX7_make 43 = .ok (.aload_n 0, 1) := by decide +kernel
theorem dX7_make_44 : decode cX7_make 44 = .ok (.getfield 22, 3) := by decide +kernel
theorem dX7_make_47 : decode cX7_make 47 = .ok (.arraylength, 1) := by decide +kernel
theorem dX7_make_48 : decode cX7_make 48 = .ok (.if_icmp .ge 65, 3) := by decide +kernel
theorem dX7_make_51 : decode cX7_make 51 = .ok (.aload_n 0, 1) := by decide +kernel
theorem dX7_make_52 : decode cX7_make 52 = .ok (.getfield 22, 3) := by decide +kernel
theorem dX7_make_55 : decode cX7_make 55 = .ok (.iload 4, 2) := by decide +kernel
theorem dX7_make_57 : decode cX7_make 57 = .ok (.aaload, 1) := by decide +kernel
theorem dX7_make_58 : decode cX7_make 58 = .ok (.astore 5, 2) := by decide +kernel
theorem dX7_make_60 : decode cX7_make 60 = .ok (.aload 5, 2) := by decide +kernel
theorem dX7_make_62 : decode cX7_make 62 = .ok (.ifnonnull 7, 3) := by decide +kernel
theorem dX7_make_65 : decode cX7_make 65 = .ok (.aconst_null, 1) := by decide +kernel
theorem dX7_make_66 : decode cX7_make 66 = .ok (.goto 9, 3) := by decide +kernel
theorem dX7_make_69 : decode cX7_make 69 = .ok (.aload 5, 2) := by decide +kernel
theorem dX7_make_71 : decode cX7_make 71 = .ok (.iload_n 3, 1) := by decide +kernel
theorem dX7_make_72 : decode cX7_make 72 = .ok (.invokevirtual 54, 3) := by decide +kernel
theorem dX7_make_75 : decode cX7_make 75 = .ok (.astore 6, 2) := by decide +kernel
theorem dX7_make_77 : decode cX7_make 77 = .ok (.aload 6, 2) := by decide +kernel
theorem dX7_make_79 : decode cX7_make 79 = .ok (.ifnull 28, 3) := by decide +kernel
theorem dX7_make_82 : decode cX7_make 82 = .ok (.aload 6, 2) := by decide +kernel
theorem dX7_make_84 : decode cX7_make 84 = .ok (.invokevirtual 58, 3) := by decide +kernel
theorem dX7_make_87 : decode cX7_make 87 = .ok (.aload 6, 2) := by decide +kernel
theorem dX7_make_89 : decode cX7_make 89 = .ok (.aload 5, 2) := by decide +kernel
theorem dX7_make_91 : decode cX7_make 91 = .ok (.aload_n 0, 1) := by decide +kernel
theorem dX7_make_92 : decode cX7_make 92 = .ok (.getfield 63, 3) := by decide +kernel
theorem dX7_make_95 : decode cX7_make 95 = .ok (.if_acmp .ne 8, 3) := by decide +kernel
theorem dX7_make_98 : decode cX7_make 98 = .ok (.iload_n 2, 1) := by decide +kernel
theorem dX7_make_99 : decode cX7_make 99 = .ok (.i2l, 1) := by decide +kernel
theorem dX7_make_100 : decode cX7_make 100 = .ok (.goto 4, 3) := by decide +kernel
theorem dX7_make_103 : decode cX7_make 103 = .ok (.lconst 0, 1) := by decide +kernel
theorem dX7_make_104 : decode cX7_make 104 = .ok (.putfield 67, 3) := by decide +kernel
theorem dX7_make_107 : decode cX7_make 107 = .ok (.iinc 4 1, 3) := by decide +kernel
theorem dX7_make_110 : decode cX7_make 110 = .ok (.goto (-69), 3) := by decide +kernel
theorem dX7_make_113 : decode cX7_make 113 = .ok (.iconst 1, 1) := by decide +kernel
theorem dX7_make_114 : decode cX7_make 114 = .ok (.ireturn, 1) := by decide +kernel
theorem dX7_takeAway_0 : decode cX7_takeAway 0 = .ok (.aload_n 0, 1) := by decide +kernel
theorem dX7_takeAway_1 : decode cX7_takeAway 1 = .ok (.lload_n 1, 1) := by decide +kernel
theorem dX7_takeAway_2 : decode cX7_takeAway 2 = .ok (.invokevirtual 71, 3) := by decide +kernel
theorem dX7_takeAway_5 : decode cX7_takeAway 5 = .ok (.istore_n 3, 1) := by decide +kernel
theorem dX7_takeAway_6 : decode cX7_takeAway 6 = .ok (.iload_n 3, 1) := by decide +kernel
theorem dX7_takeAway_7 : decode cX7_takeAway 7 = .ok (.ifCond .lt 29, 3) := by decide +kernel
theorem dX7_takeAway_10 : decode cX7_takeAway 10 = .ok (.iload_n 3, 1) := by decide +kernel
theorem dX7_takeAway_11 : decode cX7_takeAway 11 = .ok (.aload_n 0, 1) := by decide +kernel
theorem dX7_takeAway_12 : decode cX7_takeAway 12 = .ok (.getfield 26, 3) := by decide +kernel
theorem dX7_takeAway_15 : decode cX7_takeAway 15 = .ok (.arraylength, 1) := by decide +kernel
theorem dX7_takeAway_16 : decode cX7_takeAway 16 = .ok (.if_icmp .ge 20, 3) := by decide +kernel
theorem dX7_takeAway_19 : decode cX7_takeAway 19 = .ok (.aload_n 0, 1) := by decide +kernel
theorem dX7_takeAway_20 : decode cX7_takeAway 20 = .ok (.getfield 26, 3) := by decide +kernel
theorem dX7_takeAway_23 : decode cX7_takeAway 23 = .ok (.iload_n 3, 1) := by decide +kernel
theorem dX7_takeAway_24 : decode cX7_takeAway 24 = .ok (.iconst 0, 1) := by decide +kernel
theorem dX7_takeAway_25 : decode cX7_takeAway 25 = .ok (.iastore, 1) := by decide +kernel
theorem dX7_takeAway_26 : decode cX7_takeAway 26 = .ok (.aload_n 0, 1) := by decide +kernel
theorem dX7_takeAway_27 : decode cX7_takeAway 27 = .ok (.dup, 1) := by decide +kernel
theorem dX7_takeAway_28 : decode cX7_takeAway 28 = .ok (.getfield 38, 3) := by decide +kernel
theorem dX7_takeAway_31 : decode cX7_takeAway 31 = .ok (.iconst 1, 1) := by decide +kernel
theorem dX7_takeAway_32 : decode cX7_takeAway 32 = .ok (.isub, 1) := by decide +kernel
theorem dX7_takeAway_33 : decode cX7_takeAway 33 = .ok (.putfield 38, 3) := by decide +kernel
theorem dX7_takeAway_36 : decode cX7_takeAway 36 = .ok (.return_, 1) := by decide +kernel
theorem dX7_indexAbove_0 : decode cX7_indexAbove 0 = .ok (.ldc2_w 74, 3) := by decide +kernel
theorem dX7_indexAbove_3 : decode cX7_indexAbove 3 = .ok (.lstore_n 3, 1) := by decide +kernel
theorem dX7_indexAbove_4 : decode cX7_indexAbove 4 = .ok (.iconst 0, 1) := by decide +kernel
theorem dX7_indexAbove_5 : decode cX7_indexAbove 5 = .ok (.istore 5, 2) := by decide +kernel
theorem dX7_indexAbove_7 : decode cX7_indexAbove 7 = .ok (.iload 5, 2) := by decide +kernel
theorem dX7_indexAbove_9 : decode cX7_indexAbove 9 = .ok (.aload_n 0, 1) := by decide +kernel
theorem dX7_indexAbove_10 : decode cX7_indexAbove 10 = .ok (.getfield 26, 3) := by decide +kernel
theorem dX7_indexAbove_13 : decode cX7_indexAbove 13 = .ok (.arraylength, 1) := by decide +kernel
theorem dX7_indexAbove_14 : decode cX7_indexAbove 14 = .ok (.if_icmp .ge 49, 3) := by decide +kernel
theorem dX7_indexAbove_17 : decode cX7_indexAbove 17 = .ok (.aload_n 0, 1) := by decide +kernel
theorem dX7_indexAbove_18 : decode cX7_indexAbove 18 = .ok (.getfield 26, 3) := by decide +kernel
theorem dX7_indexAbove_21 : decode cX7_indexAbove 21 = .ok (.iload 5, 2) := by decide +kernel
theorem dX7_indexAbove_23 : decode cX7_indexAbove 23 = .ok (.iaload, 1) := by decide +kernel
theorem dX7_indexAbove_24 : decode cX7_indexAbove 24 = .ok (.i2l, 1) := by decide +kernel
theorem dX7_indexAbove_25 : decode cX7_indexAbove 25 = .ok (.lstore 6, 2) := by decide +kernel
theorem dX7_indexAbove_27 : decode cX7_indexAbove 27 = .ok (.lload 6, 2) := by decide +kernel
theorem dX7_indexAbove_29 : decode cX7_indexAbove 29 = .ok (.lconst 1, 1) := by decide +kernel
theorem dX7_indexAbove_30 : decode cX7_indexAbove 30 = .ok (.lcmp, 1) := by decide +kernel
theorem dX7_indexAbove_31 : decode cX7_indexAbove 31 = .ok (.ifCond .lt 26, 3) := by decide +kernel
theorem dX7_indexAbove_34 : decode cX7_indexAbove 34 = .ok (.lload 6, 2) := by decide +kernel
theorem dX7_indexAbove_36 : decode cX7_indexAbove 36 = .ok (.lload_n 1, 1) := by decide +kernel
theorem dX7_indexAbove_37 : decode cX7_indexAbove 37 = .ok (.lcmp, 1) := by decide +kernel
theorem dX7_indexAbove_38 : decode cX7_indexAbove 38 = .ok (.ifCond .le 19, 3) := by decide +kernel
theorem dX7_indexAbove_41 : decode cX7_indexAbove 41 = .ok (.lload_n 3, 1) := by decide +kernel
theorem dX7_indexAbove_42 : decode cX7_indexAbove 42 = .ok (.lconst 0, 1) := by decide +kernel
theorem dX7_indexAbove_43 : decode cX7_indexAbove 43 = .ok (.lcmp, 1) := by decide +kernel
theorem dX7_indexAbove_44 : decode cX7_indexAbove 44 = .ok (.ifCond .lt 10, 3) := by decide +kernel
theorem dX7_indexAbove_47 : decode cX7_indexAbove 47 = .ok (.lload 6, 2) := by decide +kernel
theorem dX7_indexAbove_49 : decode cX7_indexAbove 49 = .ok (.lload_n 3, 1) := by decide +kernel
theorem dX7_indexAbove_50 : decode cX7_indexAbove 50 = .ok (.lcmp, 1) := by decide +kernel
theorem dX7_indexAbove_51 : decode cX7_indexAbove 51 = .ok (.ifCond .ge 6, 3) := by decide +kernel
theorem dX7_indexAbove_54 : decode cX7_indexAbove 54 = .ok (.lload 6, 2) := by decide +kernel
theorem dX7_indexAbove_56 : decode cX7_indexAbove 56 = .ok (.lstore_n 3, 1) := by decide +kernel
theorem dX7_indexAbove_57 : decode cX7_indexAbove 57 = .ok (.iinc 5 1, 3) := by decide +kernel
theorem dX7_indexAbove_60 : decode cX7_indexAbove 60 = .ok (.goto (-53), 3) := by decide +kernel
theorem dX7_indexAbove_63 : decode cX7_indexAbove 63 = .ok (.lload_n 3, 1) := by decide +kernel
theorem dX7_indexAbove_64 : decode cX7_indexAbove 64 = .ok (.lreturn, 1) := by decide +kernel
theorem dX8_init_0 : decode cX8_init 0 = .ok (.aload_n 0, 1) := by decide +kernel
theorem dX8_init_1 : decode cX8_init 1 = .ok (.invokespecial 3, 3) := by decide +kernel
theorem dX8_init_4 : decode cX8_init 4 = .ok (.aload_n 0, 1) := by decide +kernel
theorem dX8_init_5 : decode cX8_init 5 = .ok (.new 9, 3) := by decide +kernel
theorem dX8_init_8 : decode cX8_init 8 = .ok (.dup, 1) := by decide +kernel
theorem dX8_init_9 : decode cX8_init 9 = .ok (.bipush 16, 2) := by decide +kernel
theorem dX8_init_11 : decode cX8_init 11 = .ok (.invokespecial 11, 3) := by decide +kernel
theorem dX8_init_14 : decode cX8_init 14 = .ok (.putfield 14, 3) := by decide +kernel
theorem dX8_init_17 : decode cX8_init 17 = .ok (.aload_n 0, 1) := by decide +kernel
theorem dX8_init_18 : decode cX8_init 18 = .ok (.getfield 14, 3) := by decide +kernel
theorem dX8_init_21 : decode cX8_init 21 = .ok (.aload_n 1, 1) := by decide +kernel
theorem dX8_init_22 : decode cX8_init 22 = .ok (.invokevirtual 20, 3) := by decide +kernel
theorem dX8_init_25 : decode cX8_init 25 = .ok (.aload_n 0, 1) := by decide +kernel
theorem dX8_init_26 : decode cX8_init 26 = .ok (.iload_n 2, 1) := by decide +kernel
theorem dX8_init_27 : decode cX8_init 27 = .ok (.putfield 24, 3) := by decide +kernel
theorem dX8_init_30 : decode cX8_init 30 = .ok (.aload_n 0, 1) := by decide +kernel
theorem dX8_init_31 : decode cX8_init 31 = .ok (.iload_n 3, 1) := by decide +kernel
theorem dX8_init_32 : decode cX8_init 32 = .ok (.putfield 28, 3) := by decide +kernel
theorem dX8_init_35 : decode cX8_init 35 = .ok (.aload_n 0, 1) := by decide +kernel
theorem dX8_init_36 : decode cX8_init 36 = .ok (.lload 4, 2) := by decide +kernel
theorem dX8_init_38 : decode cX8_init 38 = .ok (.putfield 31, 3) := by decide +kernel
theorem dX8_init_41 : decode cX8_init 41 = .ok (.aload_n 0, 1) := by decide +kernel
theorem dX8_init_42 : decode cX8_init 42 = .ok (.lload 6, 2) := by decide +kernel
theorem dX8_init_44 : decode cX8_init 44 = .ok (.putfield 35, 3) := by decide +kernel
theorem dX8_init_47 : decode cX8_init 47 = .ok (.aload_n 0, 1) := by decide +kernel
theorem dX8_init_48 : decode cX8_init 48 = .ok (.aload 8, 2) := by decide +kernel
theorem dX8_init_50 : decode cX8_init 50 = .ok (.putfield 38, 3) := by decide +kernel
theorem dX8_init_53 : decode cX8_init 53 = .ok (.aload_n 0, 1) := by decide +kernel
theorem dX8_init_54 : decode cX8_init 54 = .ok (.aload 8, 2) := by decide +kernel
theorem dX8_init_56 : decode cX8_init 56 = .ok (.ifnonnull 7, 3) := by decide +kernel
theorem dX8_init_59 : decode cX8_init 59 = .ok (.iconst 1, 1) := by decide +kernel
theorem dX8_init_60 : decode cX8_init 60 = .ok (.goto 5, 3) := by decide +kernel
theorem dX8_init_63 : decode cX8_init 63 = .ok (.bipush 16, 2) := by decide +kernel
theorem dX8_init_65 : decode cX8_init 65 = .ok (.anewarray 42, 3) := by decide +kernel
theorem dX8_init_68 : decode cX8_init 68 = .ok (.putfield 44, 3) := by decide +kernel
theorem dX8_init_71 : decode cX8_init 71 = .ok (.iload_n 2, 1) := by decide +kernel
theorem dX8_init_72 : decode cX8_init 72 = .ok (.iconst 4, 1) := by decide +kernel
theorem dX8_init_73 : decode cX8_init 73 = .ok (.if_icmp .ne 8, 3) := by decide +kernel
theorem dX8_init_76 : decode cX8_init 76 = .ok (.bipush 40, 2) := by decide +kernel
theorem dX8_init_78 : decode cX8_init 78 = .ok (.goto 15, 3) := by decide +kernel
theorem dX8_init_81 : decode cX8_init 81 = .ok (.iload_n 2, 1) := by decide +kernel
theorem dX8_init_82 : decode cX8_init 82 = .ok (.bipush 6, 2) := by decide +kernel
theorem dX8_init_84 : decode cX8_init 84 = .ok (.if_icmp .ne 8, 3) := by decide +kernel
theorem dX8_init_87 : decode cX8_init 87 = .ok (.bipush 16, 2) := by decide +kernel
theorem dX8_init_89 : decode cX8_init 89 = .ok (.goto 4, 3) := by decide +kernel
theorem dX8_init_92 : decode cX8_init 92 = .ok (.iconst 0, 1) := by decide +kernel
theorem dX8_init_93 : decode cX8_init 93 = .ok (.istore 9, 2) := by decide +kernel
theorem dX8_init_95 : decode cX8_init 95 = .ok (.iconst 0, 1) := by decide +kernel
theorem dX8_init_96 : decode cX8_init 96 = .ok (.istore 10, 2) := by decide +kernel
theorem dX8_init_98 : decode cX8_init 98 = .ok (.iload 10, 2) := by decide +kernel
theorem dX8_init_100 : decode cX8_init 100 = .ok (.aload_n 0, 1) := by decide +kernel
theorem dX8_init_101 : decode cX8_init 101 = .ok (.getfield 44, 3) := by decide +kernel
theorem dX8_init_104 : decode cX8_init 104 = .ok (.arraylength, 1) := by decide +kernel
theorem dX8_init_105 : decode cX8_init 105 = .ok (.if_icmp .ge 35, 3) := by decide +kernel
theorem dX8_init_108 : decode cX8_init 108 = .ok (.new 42, 3) := by decide +kernel
theorem dX8_init_111 : decode cX8_init 111 = .ok (.dup, 1) := by decide +kernel
theorem dX8_init_112 : decode cX8_init 112 = .ok (.iload_n 2, 1) := by decide +kernel
theorem dX8_init_113 : decode cX8_init 113 = .ok (.iload 9, 2) := by decide +kernel
theorem dX8_init_115 : decode cX8_init 115 = .ok (.invokespecial 48, 3) := by decide +kernel
theorem dX8_init_118 : decode cX8_init 118 = .ok (.astore 11, 2) := by decide +kernel
theorem dX8_init_120 : decode cX8_init 120 = .ok (.aload 11, 2) := by decide +kernel
theorem dX8_init_122 : decode cX8_init 122 = .ok (.invokevirtual 51, 3) := by decide +kernel
theorem dX8_init_125 : decode cX8_init 125 = .ok (.aload_n 0, 1) := by decide +kernel
theorem dX8_init_126 : decode cX8_init 126 = .ok (.getfield 44, 3) := by decide +kernel
theorem dX8_init_129 : decode cX8_init 129 = .ok (.iload 10, 2) := by decide +kernel
theorem dX8_init_131 : decode cX8_init 131 = .ok (.aload 11, 2) := by decide +kernel
theorem dX8_init_133 : decode cX8_init 133 = .ok (.aastore, 1) := by decide +kernel
theorem dX8_init_134 : decode cX8_init 134 = .ok (.iinc 10 1, 3) := by decide +kernel
theorem dX8_init_137 : decode cX8_init 137 = .ok (.goto (-39), 3) := by decide +kernel
theorem dX8_init_140 : decode cX8_init 140 = .ok (.return_, 1) := by decide +kernel
theorem dX8_isStatus_0 : decode cX8_isStatus 0 = .ok (.aload_n 0, 1) := by decide +kernel
theorem dX8_isStatus_1 : decode cX8_isStatus 1 = .ok (.getfield 38, 3) := by decide +kernel
theorem dX8_isStatus_4 : decode cX8_isStatus 4 = .ok (.ifnull 18, 3) := by decide +kernel
theorem dX8_isStatus_7 : decode cX8_isStatus 7 = .ok (.aload_n 0, 1) := by decide +kernel
theorem dX8_isStatus_8 : decode cX8_isStatus 8 = .ok (.getfield 38, 3) := by decide +kernel
theorem dX8_isStatus_11 : decode cX8_isStatus 11 = .ok (.getfield 54, 3) := by decide +kernel
theorem dX8_isStatus_14 : decode cX8_isStatus 14 = .ok (.aload_n 0, 1) := by decide +kernel
theorem dX8_isStatus_15 : decode cX8_isStatus 15 = .ok (.if_acmp .ne 7, 3) := by decide +kernel
theorem dX8_isStatus_18 : decode cX8_isStatus 18 = .ok (.iconst 1, 1) := by decide +kernel
theorem dX8_isStatus_19 : decode cX8_isStatus 19 = .ok (.goto 4, 3) := by decide +kernel
theorem dX8_isStatus_22 : decode cX8_isStatus 22 = .ok (.iconst 0, 1) := by decide +kernel
theorem dX8_isStatus_23 : decode cX8_isStatus 23 = .ok (.ireturn, 1) := by decide +kernel
theorem dX8_tellsClock_0 : decode cX8_tellsClock 0 = .ok (.aload_n 0, 1) := by decide +kernel
theorem dX8_tellsClock_1 : decode cX8_tellsClock 1 = .ok (.getfield 38, 3) := by decide +kernel
theorem dX8_tellsClock_4 : decode cX8_tellsClock 4 = .ok (.ifnonnull 24, 3) := by decide +kernel
theorem dX8_tellsClock_7 : decode cX8_tellsClock 7 = .ok (.aload_n 0, 1) := by decide +kernel
theorem dX8_tellsClock_8 : decode cX8_tellsClock 8 = .ok (.getfield 24, 3) := by decide +kernel
theorem dX8_tellsClock_11 : decode cX8_tellsClock 11 = .ok (.bipush 67, 2) := by decide +kernel
theorem dX8_tellsClock_13 : decode cX8_tellsClock 13 = .ok (.if_icmp .ne 15, 3) := by decide +kernel
theorem dX8_tellsClock_16 : decode cX8_tellsClock 16 = .ok (.aload_n 0, 1) := by decide +kernel
theorem dX8_tellsClock_17 : decode cX8_tellsClock 17 = .ok (.getfield 28, 3) := by decide +kernel
theorem dX8_tellsClock_20 : decode cX8_tellsClock 20 = .ok (.iconst 1, 1) := by decide +kernel
theorem dX8_tellsClock_21 : decode cX8_tellsClock 21 = .ok (.if_icmp .ne 7, 3) := by decide +kernel
theorem dX8_tellsClock_24 : decode cX8_tellsClock 24 = .ok (.iconst 1, 1) := by decide +kernel
theorem dX8_tellsClock_25 : decode cX8_tellsClock 25 = .ok (.goto 4, 3) := by decide +kernel
theorem dX8_tellsClock_28 : decode cX8_tellsClock 28 = .ok (.iconst 0, 1) := by decide +kernel
theorem dX8_tellsClock_29 : decode cX8_tellsClock 29 = .ok (.ireturn, 1) := by decide +kernel
theorem dX8_cellAt_0 : decode cX8_cellAt 0 = .ok (.iload_n 1, 1) := by decide +kernel
theorem dX8_cellAt_1 : decode cX8_cellAt 1 = .ok (.ifCond .lt 21, 3) := by decide +kernel
theorem dX8_cellAt_4 : decode cX8_cellAt 4 = .ok (.iload_n 1, 1) := by decide +kernel
theorem dX8_cellAt_5 : decode cX8_cellAt 5 = .ok (.aload_n 0, 1) := by decide +kernel
theorem dX8_cellAt_6 : decode cX8_cellAt 6 = .ok (.getfield 44, 3) := by decide +kernel
theorem dX8_cellAt_9 : decode cX8_cellAt 9 = .ok (.arraylength, 1) := by decide +kernel
theorem dX8_cellAt_10 : decode cX8_cellAt 10 = .ok (.if_icmp .ge 12, 3) := by decide +kernel
theorem dX8_cellAt_13 : decode cX8_cellAt 13 = .ok (.aload_n 0, 1) := by decide +kernel
theorem dX8_cellAt_14 : decode cX8_cellAt 14 = .ok (.getfield 44, 3) := by decide +kernel
theorem dX8_cellAt_17 : decode cX8_cellAt 17 = .ok (.iload_n 1, 1) := by decide +kernel
theorem dX8_cellAt_18 : decode cX8_cellAt 18 = .ok (.aaload, 1) := by decide +kernel
theorem dX8_cellAt_19 : decode cX8_cellAt 19 = .ok (.goto 4, 3) := by decide +kernel
theorem dX8_cellAt_22 : decode cX8_cellAt 22 = .ok (.aconst_null, 1) := by decide +kernel
theorem dX8_cellAt_23 : decode cX8_cellAt 23 = .ok (.areturn, 1) := by decide +kernel
theorem dX8_cellFor_0 : decode cX8_cellFor 0 = .ok (.aload_n 0, 1) := by decide +kernel
theorem dX8_cellFor_1 : decode cX8_cellFor 1 = .ok (.getfield 38, 3) := by decide +kernel
theorem dX8_cellFor_4 : decode cX8_cellFor 4 = .ok (.ifnonnull 19, 3) := by decide +kernel
theorem dX8_cellFor_7 : decode cX8_cellFor 7 = .ok (.lload_n 1, 1) := by decide +kernel
theorem dX8_cellFor_8 : decode cX8_cellFor 8 = .ok (.lconst 0, 1) := by decide +kernel
theorem dX8_cellFor_9 : decode cX8_cellFor 9 = .ok (.lcmp, 1) := by decide +kernel
theorem dX8_cellFor_10 : decode cX8_cellFor 10 = .ok (.ifCond .ne 11, 3) := by decide +kernel
theorem dX8_cellFor_13 : decode cX8_cellFor 13 = .ok (.aload_n 0, 1) := by decide +kernel
theorem dX8_cellFor_14 : decode cX8_cellFor 14 = .ok (.iconst 0, 1) := by decide +kernel
theorem dX8_cellFor_15 : decode cX8_cellFor 15 = .ok (.invokevirtual 60, 3) := by decide +kernel
theorem dX8_cellFor_18 : decode cX8_cellFor 18 = .ok (.goto 4, 3) := by decide +kernel
theorem dX8_cellFor_21 : decode cX8_cellFor 21 = .ok (.aconst_null, 1) := by decide +kernel
theorem dX8_cellFor_22 : decode cX8_cellFor 22 = .ok (.areturn, 1) := by decide +kernel
theorem dX8_cellFor_23 : decode cX8_cellFor 23 = .ok (.aload_n 0, 1) := by decide +kernel
theorem dX8_cellFor_24 : decode cX8_cellFor 24 = .ok (.aload_n 0, 1) := by decide +kernel
theorem dX8_cellFor_25 : decode cX8_cellFor 25 = .ok (.getfield 38, 3) := by decide +kernel
theorem dX8_cellFor_28 : decode cX8_cellFor 28 = .ok (.lload_n 1, 1) := by decide +kernel
theorem dX8_cellFor_29 : decode cX8_cellFor 29 = .ok (.invokevirtual 64, 3) := by decide +kernel
theorem dX8_cellFor_32 : decode cX8_cellFor 32 = .ok (.invokevirtual 60, 3) := by decide +kernel
theorem dX8_cellFor_35 : decode cX8_cellFor 35 = .ok (.areturn, 1) := by decide +kernel
theorem dX8_indexAbove_0 : decode cX8_indexAbove 0 = .ok (.aload_n 0, 1) := by decide +kernel
theorem dX8_indexAbove_1 : decode cX8_indexAbove 1 = .ok (.getfield 38, 3) := by decide +kernel
theorem dX8_indexAbove_4 : decode cX8_indexAbove 4 = .ok (.ifnonnull 17, 3) := by decide +kernel
theorem dX8_indexAbove_7 : decode cX8_indexAbove 7 = .ok (.lload_n 1, 1) := by decide +kernel
theorem dX8_indexAbove_8 : decode cX8_indexAbove 8 = .ok (.lconst 0, 1) := by decide +kernel
theorem dX8_indexAbove_9 : decode cX8_indexAbove 9 = .ok (.lcmp, 1) := by decide +kernel
theorem dX8_indexAbove_10 : decode cX8_indexAbove 10 = .ok (.ifCond .ge 7, 3) := by decide +kernel
theorem dX8_indexAbove_13 : decode cX8_indexAbove 13 = .ok (.lconst 0, 1) := by decide +kernel
theorem dX8_indexAbove_14 : decode cX8_indexAbove 14 = .ok (.goto 6, 3) := by decide +kernel
theorem dX8_indexAbove_17 : decode cX8_indexAbove 17 = .ok (.ldc2_w 68, 3) := by decide +kernel
theorem dX8_indexAbove_20 : decode cX8_indexAbove 20 = .ok (.lreturn, 1) := by decide +kernel
theorem dX8_indexAbove_21 : decode cX8_indexAbove 21 = .ok (.aload_n 0, 1) := by decide +kernel
theorem dX8_indexAbove_22 : decode cX8_indexAbove 22 = .ok (.getfield 38, 3) := by decide +kernel
theorem dX8_indexAbove_25 : decode cX8_indexAbove 25 = .ok (.lload_n 1, 1) := by decide +kernel
theorem dX8_indexAbove_26 : decode cX8_indexAbove 26 = .ok (.invokevirtual 70, 3) := by decide +kernel
theorem dX8_indexAbove_29 : decode cX8_indexAbove 29 = .ok (.lreturn, 1) := by decide +kernel
theorem dX8_passedBy_0 : decode cX8_passedBy 0 = .ok (.aload_n 1, 1) := by decide +kernel
theorem dX8_passedBy_1 : decode cX8_passedBy 1 = .ok (.aload_n 0, 1) := by decide +kernel
theorem dX8_passedBy_2 : decode cX8_passedBy 2 = .ok (.getfield 14, 3) := by decide +kernel
theorem dX8_passedBy_5 : decode cX8_passedBy 5 = .ok (.invokevirtual 74, 3) := by decide +kernel
theorem dX8_passedBy_8 : decode cX8_passedBy 8 = .ok (.ifCond .eq 15, 3) := by decide +kernel
theorem dX8_passedBy_11 : decode cX8_passedBy 11 = .ok (.aload_n 1, 1) := by decide +kernel
theorem dX8_passedBy_12 : decode cX8_passedBy 12 = .ok (.aload_n 0, 1) := by decide +kernel
theorem dX8_passedBy_13 : decode cX8_passedBy 13 = .ok (.getfield 14, 3) := by decide +kernel
theorem dX8_passedBy_16 : decode cX8_passedBy 16 = .ok (.invokevirtual 78, 3) := by decide +kernel
theorem dX8_passedBy_19 : decode cX8_passedBy 19 = .ok (.invokevirtual 82, 3) := by decide +kernel
theorem dX8_passedBy_22 : decode cX8_passedBy 22 = .ok (.lreturn, 1) := by decide +kernel
theorem dX8_passedBy_23 : decode cX8_passedBy 23 = .ok (.aload_n 1, 1) := by decide +kernel
theorem dX8_passedBy_24 : decode cX8_passedBy 24 = .ok (.aload_n 0, 1) := by decide +kernel
theorem dX8_passedBy_25 : decode cX8_passedBy 25 = .ok (.getfield 14, 3) := by decide +kernel
theorem dX8_passedBy_28 : decode cX8_passedBy 28 = .ok (.invokevirtual 86, 3) := by decide +kernel
theorem dX8_passedBy_31 : decode cX8_passedBy 31 = .ok (.ifCond .eq 9, 3) := by decide +kernel
theorem dX8_passedBy_34 : decode cX8_passedBy 34 = .ok (.ldc2_w 68, 3) := by decide +kernel
theorem dX8_passedBy_37 : decode cX8_passedBy 37 = .ok (.goto 6, 3) := by decide +kernel
theorem dX8_passedBy_40 : decode cX8_passedBy 40 = .ok (.ldc2_w 89, 3) := by decide +kernel
theorem dX8_passedBy_43 : decode cX8_passedBy 43 = .ok (.lreturn, 1) := by decide +kernel
theorem dX8_takesLength_0 : decode cX8_takesLength 0 = .ok (.aload_n 0, 1) := by decide +kernel
theorem dX8_takesLength_1 : decode cX8_takesLength 1 = .ok (.getfield 24, 3) := by decide +kernel
theorem dX8_takesLength_4 : decode cX8_takesLength 4 = .ok (.iconst 4, 1) := by decide +kernel
theorem dX8_takesLength_5 : decode cX8_takesLength 5 = .ok (.if_icmp .ne 35, 3) := by decide +kernel
theorem dX8_takesLength_8 : decode cX8_takesLength 8 = .ok (.aload_n 1, 1) := by decide +kernel
theorem dX8_takesLength_9 : decode cX8_takesLength 9 = .ok (.getfield 91, 3) := by decide +kernel
theorem dX8_takesLength_12 : decode cX8_takesLength 12 = .ok (.invokevirtual 78, 3) := by decide +kernel
theorem dX8_takesLength_15 : decode cX8_takesLength 15 = .ok (.i2l, 1) := by decide +kernel
theorem dX8_takesLength_16 : decode cX8_takesLength 16 = .ok (.aload_n 0, 1) := by decide +kernel
theorem dX8_takesLength_17 : decode cX8_takesLength 17 = .ok (.getfield 31, 3) := by decide +kernel
theorem dX8_takesLength_20 : decode cX8_takesLength 20 = .ok (.lcmp, 1) := by decide +kernel
theorem dX8_takesLength_21 : decode cX8_takesLength 21 = .ok (.ifCond .lt 23, 3) := by decide +kernel
theorem dX8_takesLength_24 : decode cX8_takesLength 24 = .ok (.aload_n 1, 1) := by decide +kernel
theorem dX8_takesLength_25 : decode cX8_takesLength 25 = .ok (.getfield 91, 3) := by decide +kernel
theorem dX8_takesLength_28 : decode cX8_takesLength 28 = .ok (.invokevirtual 78, 3) := by decide +kernel
theorem dX8_takesLength_31 : decode cX8_takesLength 31 = .ok (.i2l, 1) := by decide +kernel
theorem dX8_takesLength_32 : decode cX8_takesLength 32 = .ok (.aload_n 0, 1) := by decide +kernel
theorem dX8_takesLength_33 : decode cX8_takesLength 33 = .ok (.getfield 35, 3) := by decide +kernel
theorem dX8_takesLength_36 : decode cX8_takesLength 36 = .ok (.lcmp, 1) := by decide +kernel
theorem dX8_takesLength_37 : decode cX8_takesLength 37 = .ok (.ifCond .gt 7, 3) := by decide +kernel
theorem dX8_takesLength_40 : decode cX8_takesLength 40 = .ok (.iconst 1, 1) := by decide +kernel
theorem dX8_takesLength_41 : decode cX8_takesLength 41 = .ok (.goto 4, 3) := by decide +kernel
theorem dX8_takesLength_44 : decode cX8_takesLength 44 = .ok (.iconst 0, 1) := by decide +kernel
theorem dX8_takesLength_45 : decode cX8_takesLength 45 = .ok (.ireturn, 1) := by decide +kernel
theorem dX8_takesNumber_0 : decode cX8_takesNumber 0 = .ok (.aload_n 0, 1) := by decide +kernel
theorem dX8_takesNumber_1 : decode cX8_takesNumber 1 = .ok (.invokevirtual 94, 3) := by decide +kernel
theorem dX8_takesNumber_4 : decode cX8_takesNumber 4 = .ok (.ifCond .eq 16, 3) := by decide +kernel
theorem dX8_takesNumber_7 : decode cX8_takesNumber 7 = .ok (.aload_n 1, 1) := by decide +kernel
theorem dX8_takesNumber_8 : decode cX8_takesNumber 8 = .ok (.getfield 98, 3) := by decide +kernel
theorem dX8_takesNumber_11 : decode cX8_takesNumber 11 = .ok (.ldc2_w 101, 3) := by decide +kernel
theorem dX8_takesNumber_14 : decode cX8_takesNumber 14 = .ok (.lcmp, 1) := by decide +kernel
theorem dX8_takesNumber_15 : decode cX8_takesNumber 15 = .ok (.ifCond .ne 5, 3) := by decide +kernel
theorem dX8_takesNumber_18 : decode cX8_takesNumber 18 = .ok (.iconst 0, 1) := by decide +kernel
theorem dX8_takesNumber_19 : decode cX8_takesNumber 19 = .ok (.ireturn, 1) := by decide +kernel
theorem dX8_takesNumber_20 : decode cX8_takesNumber 20 = .ok (.aload_n 0, 1) := by decide +kernel
theorem dX8_takesNumber_21 : decode cX8_takesNumber 21 = .ok (.getfield 24, 3) := by decide +kernel
theorem dX8_takesNumber_24 : decode cX8_takesNumber 24 = .ok (.iconst 2, 1) := by decide +kernel
theorem dX8_takesNumber_25 : decode cX8_takesNumber 25 = .ok (.if_icmp .eq 21, 3) := by decide +kernel
theorem dX8_takesNumber_28 : decode cX8_takesNumber 28 = .ok (.aload_n 0, 1) := by decide +kernel
theorem dX8_takesNumber_29 : decode cX8_takesNumber 29 = .ok (.getfield 24, 3) := by decide +kernel
theorem dX8_takesNumber_32 : decode cX8_takesNumber 32 = .ok (.bipush 66, 2) := by decide +kernel
theorem dX8_takesNumber_34 : decode cX8_takesNumber 34 = .ok (.if_icmp .eq 12, 3) := by decide +kernel
theorem dX8_takesNumber_37 : decode cX8_takesNumber 37 = .ok (.aload_n 0, 1) := by decide +kernel
theorem dX8_takesNumber_38 : decode cX8_takesNumber 38 = .ok (.getfield 24, 3) := by decide +kernel
theorem dX8_takesNumber_41 : decode cX8_takesNumber 41 = .ok (.bipush 67, 2) := by decide +kernel
theorem dX8_takesNumber_43 : decode cX8_takesNumber 43 = .ok (.if_icmp .ne 7, 3) := by decide +kernel
theorem dX8_takesNumber_46 : decode cX8_takesNumber 46 = .ok (.iconst 1, 1) := by decide +kernel
theorem dX8_takesNumber_47 : decode cX8_takesNumber 47 = .ok (.goto 4, 3) := by decide +kernel
theorem dX8_takesNumber_50 : decode cX8_takesNumber 50 = .ok (.iconst 0, 1) := by decide +kernel
theorem dX8_takesNumber_51 : decode cX8_takesNumber 51 = .ok (.istore_n 2, 1) := by decide +kernel
theorem dX8_takesNumber_52 : decode cX8_takesNumber 52 = .ok (.iload_n 2, 1) := by decide +kernel
theorem dX8_takesNumber_53 : decode cX8_takesNumber 53 = .ok (.ifCond .eq 27, 3) := by decide +kernel
