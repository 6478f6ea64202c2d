theorem dX8_takesNumber_56 : decode cX8_takesNumber 56 = .ok (.aload_n 1, 1) := by decide +kernel
theorem dX8_takesNumber_57 : decode cX8_takesNumber 57 = .ok (.getfield 98, 3) := by decide +kernel
theorem dX8_takesNumber_60 : decode cX8_takesNumber 60 = .ok (.aload_n 0, 1) := by decide +kernel
theorem dX8_takesNumber_61 : decode cX8_takesNumber 61 = .ok (.getfield 31, 3) := by decide +kernel
theorem dX8_takesNumber_64 : decode cX8_takesNumber 64 = .ok (.lcmp, 1) := by decide +kernel
theorem dX8_takesNumber_65 : decode cX8_takesNumber 65 = .ok (.ifCond .lt 19, 3) := by decide +kernel
theorem dX8_takesNumber_68 : decode cX8_takesNumber 68 = .ok (.aload_n 1, 1) := by decide +kernel
theorem dX8_takesNumber_69 : decode cX8_takesNumber 69 = .ok (.getfield 98, 3) := by decide +kernel
theorem dX8_takesNumber_72 : decode cX8_takesNumber 72 = .ok (.aload_n 0, 1) := by decide +kernel
theorem dX8_takesNumber_73 : decode cX8_takesNumber 73 = .ok (.getfield 35, 3) := by decide +kernel
theorem dX8_takesNumber_76 : decode cX8_takesNumber 76 = .ok (.lcmp, 1) := by decide +kernel
theorem dX8_takesNumber_77 : decode cX8_takesNumber 77 = .ok (.ifCond .gt 7, 3) := by decide +kernel
theorem dX8_takesNumber_80 : decode cX8_takesNumber 80 = .ok (.iconst 1, 1) := by decide +kernel
theorem dX8_takesNumber_81 : decode cX8_takesNumber 81 = .ok (.goto 4, 3) := by decide +kernel
theorem dX8_takesNumber_84 : decode cX8_takesNumber 84 = .ok (.iconst 0, 1) := by decide +kernel
theorem dX8_takesNumber_85 : decode cX8_takesNumber 85 = .ok (.ireturn, 1) := by decide +kernel
theorem dX8_takesIndex_0 : decode cX8_takesIndex 0 = .ok (.aload_n 1, 1) := by decide +kernel
theorem dX8_takesIndex_1 : decode cX8_takesIndex 1 = .ok (.invokevirtual 78, 3) := by decide +kernel
theorem dX8_takesIndex_4 : decode cX8_takesIndex 4 = .ok (.aload_n 0, 1) := by decide +kernel
theorem dX8_takesIndex_5 : decode cX8_takesIndex 5 = .ok (.getfield 14, 3) := by decide +kernel
theorem dX8_takesIndex_8 : decode cX8_takesIndex 8 = .ok (.invokevirtual 78, 3) := by decide +kernel
theorem dX8_takesIndex_11 : decode cX8_takesIndex 11 = .ok (.iconst 1, 1) := by decide +kernel
theorem dX8_takesIndex_12 : decode cX8_takesIndex 12 = .ok (.iadd, 1) := by decide +kernel
theorem dX8_takesIndex_13 : decode cX8_takesIndex 13 = .ok (.if_icmp .eq 5, 3) := by decide +kernel
theorem dX8_takesIndex_16 : decode cX8_takesIndex 16 = .ok (.iconst 0, 1) := by decide +kernel
theorem dX8_takesIndex_17 : decode cX8_takesIndex 17 = .ok (.ireturn, 1) := by decide +kernel
theorem dX8_takesIndex_18 : decode cX8_takesIndex 18 = .ok (.aload_n 1, 1) := by decide +kernel
theorem dX8_takesIndex_19 : decode cX8_takesIndex 19 = .ok (.aload_n 0, 1) := by decide +kernel
theorem dX8_takesIndex_20 : decode cX8_takesIndex 20 = .ok (.getfield 14, 3) := by decide +kernel
theorem dX8_takesIndex_23 : decode cX8_takesIndex 23 = .ok (.invokevirtual 78, 3) := by decide +kernel
theorem dX8_takesIndex_26 : decode cX8_takesIndex 26 = .ok (.invokevirtual 82, 3) := by decide +kernel
theorem dX8_takesIndex_29 : decode cX8_takesIndex 29 = .ok (.lstore_n 2, 1) := by decide +kernel
theorem dX8_takesIndex_30 : decode cX8_takesIndex 30 = .ok (.aload_n 0, 1) := by decide +kernel
theorem dX8_takesIndex_31 : decode cX8_takesIndex 31 = .ok (.getfield 38, 3) := by decide +kernel
theorem dX8_takesIndex_34 : decode cX8_takesIndex 34 = .ok (.ifnonnull 17, 3) := by decide +kernel
theorem dX8_takesIndex_37 : decode cX8_takesIndex 37 = .ok (.lload_n 2, 1) := by decide +kernel
theorem dX8_takesIndex_38 : decode cX8_takesIndex 38 = .ok (.lconst 0, 1) := by decide +kernel
theorem dX8_takesIndex_39 : decode cX8_takesIndex 39 = .ok (.lcmp, 1) := by decide +kernel
theorem dX8_takesIndex_40 : decode cX8_takesIndex 40 = .ok (.ifCond .ne 7, 3) := by decide +kernel
theorem dX8_takesIndex_43 : decode cX8_takesIndex 43 = .ok (.iconst 1, 1) := by decide +kernel
theorem dX8_takesIndex_44 : decode cX8_takesIndex 44 = .ok (.goto 26, 3) := by decide +kernel
theorem dX8_takesIndex_47 : decode cX8_takesIndex 47 = .ok (.iconst 0, 1) := by decide +kernel
theorem dX8_takesIndex_48 : decode cX8_takesIndex 48 = .ok (.goto 22, 3) := by decide +kernel
theorem dX8_takesIndex_51 : decode cX8_takesIndex 51 = .ok (.lload_n 2, 1) := by decide +kernel
theorem dX8_takesIndex_52 : decode cX8_takesIndex 52 = .ok (.lconst 1, 1) := by decide +kernel
theorem dX8_takesIndex_53 : decode cX8_takesIndex 53 = .ok (.lcmp, 1) := by decide +kernel
theorem dX8_takesIndex_54 : decode cX8_takesIndex 54 = .ok (.ifCond .lt 15, 3) := by decide +kernel
theorem dX8_takesIndex_57 : decode cX8_takesIndex 57 = .ok (.lload_n 2, 1) := by decide +kernel
theorem dX8_takesIndex_58 : decode cX8_takesIndex 58 = .ok (.ldc2_w 103, 3) := by decide +kernel
theorem dX8_takesIndex_61 : decode cX8_takesIndex 61 = .ok (.lcmp, 1) := by decide +kernel
theorem dX8_takesIndex_62 : decode cX8_takesIndex 62 = .ok (.ifCond .gt 7, 3) := by decide +kernel
theorem dX8_takesIndex_65 : decode cX8_takesIndex 65 = .ok (.iconst 1, 1) := by decide +kernel
theorem dX8_takesIndex_66 : decode cX8_takesIndex 66 = .ok (.goto 4, 3) := by decide +kernel
theorem dX8_takesIndex_69 : decode cX8_takesIndex 69 = .ok (.iconst 0, 1) := by decide +kernel
theorem dX8_takesIndex_70 : decode cX8_takesIndex 70 = .ok (.ireturn, 1) := by decide +kernel
theorem dX9_init_0 : decode cX9_init 0 = .ok (.aload_n 0, 1) := by decide +kernel
theorem dX9_init_1 : decode cX9_init 1 = .ok (.invokespecial 3, 3) := by decide +kernel
theorem dX9_init_4 : decode cX9_init 4 = .ok (.aload_n 0, 1) := by decide +kernel
theorem dX9_init_5 : decode cX9_init 5 = .ok (.bipush 40, 2) := by decide +kernel
theorem dX9_init_7 : decode cX9_init 7 = .ok (.anewarray 9, 3) := by decide +kernel
theorem dX9_init_10 : decode cX9_init 10 = .ok (.putfield 11, 3) := by decide +kernel
theorem dX9_init_13 : decode cX9_init 13 = .ok (.aload_n 0, 1) := by decide +kernel
theorem dX9_init_14 : decode cX9_init 14 = .ok (.bipush 40, 2) := by decide +kernel
theorem dX9_init_16 : decode cX9_init 16 = .ok (.anewarray 9, 3) := by decide +kernel
theorem dX9_init_19 : decode cX9_init 19 = .ok (.putfield 17, 3) := by decide +kernel
theorem dX9_init_22 : decode cX9_init 22 = .ok (.aload_n 0, 1) := by decide +kernel
theorem dX9_init_23 : decode cX9_init 23 = .ok (.iconst 4, 1) := by decide +kernel
theorem dX9_init_24 : decode cX9_init 24 = .ok (.anewarray 20, 3) := by decide +kernel
theorem dX9_init_27 : decode cX9_init 27 = .ok (.putfield 22, 3) := by decide +kernel
theorem dX9_init_30 : decode cX9_init 30 = .ok (.return_, 1) := by decide +kernel
theorem dX9_thingCount_0 : decode cX9_thingCount 0 = .ok (.aload_n 0, 1) := by decide +kernel
theorem dX9_thingCount_1 : decode cX9_thingCount 1 = .ok (.getfield 26, 3) := by decide +kernel
theorem dX9_thingCount_4 : decode cX9_thingCount 4 = .ok (.ireturn, 1) := by decide +kernel
theorem dX9_tableCount_0 : decode cX9_tableCount 0 = .ok (.aload_n 0, 1) := by decide +kernel
theorem dX9_tableCount_1 : decode cX9_tableCount 1 = .ok (.getfield 30, 3) := by decide +kernel
theorem dX9_tableCount_4 : decode cX9_tableCount 4 = .ok (.ireturn, 1) := by decide +kernel
theorem dX9_thingAt_0 : decode cX9_thingAt 0 = .ok (.iload_n 1, 1) := by decide +kernel
theorem dX9_thingAt_1 : decode cX9_thingAt 1 = .ok (.ifCond .lt 21, 3) := by decide +kernel
theorem dX9_thingAt_4 : decode cX9_thingAt 4 = .ok (.iload_n 1, 1) := by decide +kernel
theorem dX9_thingAt_5 : decode cX9_thingAt 5 = .ok (.aload_n 0, 1) := by decide +kernel
theorem dX9_thingAt_6 : decode cX9_thingAt 6 = .ok (.getfield 11, 3) := by decide +kernel
theorem dX9_thingAt_9 : decode cX9_thingAt 9 = .ok (.arraylength, 1) := by decide +kernel
theorem dX9_thingAt_10 : decode cX9_thingAt 10 = .ok (.if_icmp .ge 12, 3) := by decide +kernel
theorem dX9_thingAt_13 : decode cX9_thingAt 13 = .ok (.aload_n 0, 1) := by decide +kernel
theorem dX9_thingAt_14 : decode cX9_thingAt 14 = .ok (.getfield 11, 3) := by decide +kernel
theorem dX9_thingAt_17 : decode cX9_thingAt 17 = .ok (.iload_n 1, 1) := by decide +kernel
theorem dX9_thingAt_18 : decode cX9_thingAt 18 = .ok (.aaload, 1) := by decide +kernel
theorem dX9_thingAt_19 : decode cX9_thingAt 19 = .ok (.goto 4, 3) := by decide +kernel
theorem dX9_thingAt_22 : decode cX9_thingAt 22 = .ok (.aconst_null, 1) := by decide +kernel
theorem dX9_thingAt_23 : decode cX9_thingAt 23 = .ok (.areturn, 1) := by decide +kernel
theorem dX9_thingInOrder_0 : decode cX9_thingInOrder 0 = .ok (.iload_n 1, 1) := by decide +kernel
theorem dX9_thingInOrder_1 : decode cX9_thingInOrder 1 = .ok (.ifCond .lt 21, 3) := by decide +kernel
theorem dX9_thingInOrder_4 : decode cX9_thingInOrder 4 = .ok (.iload_n 1, 1) := by decide +kernel
theorem dX9_thingInOrder_5 : decode cX9_thingInOrder 5 = .ok (.aload_n 0, 1) := by decide +kernel
theorem dX9_thingInOrder_6 : decode cX9_thingInOrder 6 = .ok (.getfield 17, 3) := by decide +kernel
theorem dX9_thingInOrder_9 : decode cX9_thingInOrder 9 = .ok (.arraylength, 1) := by decide +kernel
theorem dX9_thingInOrder_10 : decode cX9_thingInOrder 10 = .ok (.if_icmp .ge 12, 3) := by decide +kernel
theorem dX9_thingInOrder_13 : decode cX9_thingInOrder 13 = .ok (.aload_n 0, 1) := by decide +kernel
theorem dX9_thingInOrder_14 : decode cX9_thingInOrder 14 = .ok (.getfield 17, 3) := by decide +kernel
theorem dX9_thingInOrder_17 : decode cX9_thingInOrder 17 = .ok (.iload_n 1, 1) := by decide +kernel
theorem dX9_thingInOrder_18 : decode cX9_thingInOrder 18 = .ok (.aaload, 1) := by decide +kernel
theorem dX9_thingInOrder_19 : decode cX9_thingInOrder 19 = .ok (.goto 4, 3) := by decide +kernel
theorem dX9_thingInOrder_22 : decode cX9_thingInOrder 22 = .ok (.aconst_null, 1) := by decide +kernel
theorem dX9_thingInOrder_23 : decode cX9_thingInOrder 23 = .ok (.areturn, 1) := by decide +kernel
theorem dX9_tableAt_0 : decode cX9_tableAt 0 = .ok (.iload_n 1, 1) := by decide +kernel
theorem dX9_tableAt_1 : decode cX9_tableAt 1 = .ok (.ifCond .lt 21, 3) := by decide +kernel
theorem dX9_tableAt_4 : decode cX9_tableAt 4 = .ok (.iload_n 1, 1) := by decide +kernel
theorem dX9_tableAt_5 : decode cX9_tableAt 5 = .ok (.aload_n 0, 1) := by decide +kernel
theorem dX9_tableAt_6 : decode cX9_tableAt 6 = .ok (.getfield 22, 3) := by decide +kernel
theorem dX9_tableAt_9 : decode cX9_tableAt 9 = .ok (.arraylength, 1) := by decide +kernel
theorem dX9_tableAt_10 : decode cX9_tableAt 10 = .ok (.if_icmp .ge 12, 3) := by decide +kernel
theorem dX9_tableAt_13 : decode cX9_tableAt 13 = .ok (.aload_n 0, 1) := by decide +kernel
theorem dX9_tableAt_14 : decode cX9_tableAt 14 = .ok (.getfield 22, 3) := by decide +kernel
theorem dX9_tableAt_17 : decode cX9_tableAt 17 = .ok (.iload_n 1, 1) := by decide +kernel
theorem dX9_tableAt_18 : decode cX9_tableAt 18 = .ok (.aaload, 1) := by decide +kernel
theorem dX9_tableAt_19 : decode cX9_tableAt 19 = .ok (.goto 4, 3) := by decide +kernel
theorem dX9_tableAt_22 : decode cX9_tableAt 22 = .ok (.aconst_null, 1) := by decide +kernel
theorem dX9_tableAt_23 : decode cX9_tableAt 23 = .ok (.areturn, 1) := by decide +kernel
theorem dX9_isTaken_0 : decode cX9_isTaken 0 = .ok (.iconst 0, 1) := by decide +kernel
theorem dX9_isTaken_1 : decode cX9_isTaken 1 = .ok (.istore_n 2, 1) := by decide +kernel
theorem dX9_isTaken_2 : decode cX9_isTaken 2 = .ok (.iload_n 2, 1) := by decide +kernel
theorem dX9_isTaken_3 : decode cX9_isTaken 3 = .ok (.aload_n 0, 1) := by decide +kernel
theorem dX9_isTaken_4 : decode cX9_isTaken 4 = .ok (.getfield 26, 3) := by decide +kernel
theorem dX9_isTaken_7 : decode cX9_isTaken 7 = .ok (.if_icmp .ge 43, 3) := by decide +kernel
theorem dX9_isTaken_10 : decode cX9_isTaken 10 = .ok (.aload_n 0, 1) := by decide +kernel
theorem dX9_isTaken_11 : decode cX9_isTaken 11 = .ok (.iload_n 2, 1) := by decide +kernel
theorem dX9_isTaken_12 : decode cX9_isTaken 12 = .ok (.invokevirtual 33, 3) := by decide +kernel
theorem dX9_isTaken_15 : decode cX9_isTaken 15 = .ok (.astore_n 3, 1) := by decide +kernel
theorem dX9_isTaken_16 : decode cX9_isTaken 16 = .ok (.aload_n 3, 1) := by decide +kernel
theorem dX9_isTaken_17 : decode cX9_isTaken 17 = .ok (.ifnull 27, 3) := by decide +kernel
theorem dX9_isTaken_20 : decode cX9_isTaken 20 = .ok (.aload_n 1, 1) := by decide +kernel
theorem dX9_isTaken_21 : decode cX9_isTaken 21 = .ok (.aload_n 3, 1) := by decide +kernel
theorem dX9_isTaken_22 : decode cX9_isTaken 22 = .ok (.getfield 37, 3) := by decide +kernel
theorem dX9_isTaken_25 : decode cX9_isTaken 25 = .ok (.invokevirtual 41, 3) := by decide +kernel
theorem dX9_isTaken_28 : decode cX9_isTaken 28 = .ok (.ifCond .ne 14, 3) := by decide +kernel
theorem dX9_isTaken_31 : decode cX9_isTaken 31 = .ok (.aload_n 3, 1) := by decide +kernel
theorem dX9_isTaken_32 : decode cX9_isTaken 32 = .ok (.getfield 37, 3) := by decide +kernel
theorem dX9_isTaken_35 : decode cX9_isTaken 35 = .ok (.aload_n 1, 1) := by decide +kernel
theorem dX9_isTaken_36 : decode cX9_isTaken 36 = .ok (.invokevirtual 41, 3) := by decide +kernel
theorem dX9_isTaken_39 : decode cX9_isTaken 39 = .ok (.ifCond .eq 5, 3) := by decide +kernel
theorem dX9_isTaken_42 : decode cX9_isTaken 42 = .ok (.iconst 1, 1) := by decide +kernel
theorem dX9_isTaken_43 : decode cX9_isTaken 43 = .ok (.ireturn, 1) := by decide +kernel
theorem dX9_isTaken_44 : decode cX9_isTaken 44 = .ok (.iinc 2 1, 3) := by decide +kernel
theorem dX9_isTaken_47 : decode cX9_isTaken 47 = .ok (.goto (-45), 3) := by decide +kernel
theorem dX9_isTaken_50 : decode cX9_isTaken 50 = .ok (.iconst 0, 1) := by decide +kernel
theorem dX9_isTaken_51 : decode cX9_isTaken 51 = .ok (.istore_n 2, 1) := by decide +kernel
theorem dX9_isTaken_52 : decode cX9_isTaken 52 = .ok (.iload_n 2, 1) := by decide +kernel
theorem dX9_isTaken_53 : decode cX9_isTaken 53 = .ok (.aload_n 0, 1) := by decide +kernel
theorem dX9_isTaken_54 : decode cX9_isTaken 54 = .ok (.getfield 30, 3) := by decide +kernel
theorem dX9_isTaken_57 : decode cX9_isTaken 57 = .ok (.if_icmp .ge 43, 3) := by decide +kernel
theorem dX9_isTaken_60 : decode cX9_isTaken 60 = .ok (.aload_n 0, 1) := by decide +kernel
theorem dX9_isTaken_61 : decode cX9_isTaken 61 = .ok (.iload_n 2, 1) := by decide +kernel
theorem dX9_isTaken_62 : decode cX9_isTaken 62 = .ok (.invokevirtual 47, 3) := by decide +kernel
theorem dX9_isTaken_65 : decode cX9_isTaken 65 = .ok (.astore_n 3, 1) := by decide +kernel
theorem dX9_isTaken_66 : decode cX9_isTaken 66 = .ok (.aload_n 3, 1) := by decide +kernel
theorem dX9_isTaken_67 : decode cX9_isTaken 67 = .ok (.ifnull 27, 3) := by decide +kernel
theorem dX9_isTaken_70 : decode cX9_isTaken 70 = .ok (.aload_n 1, 1) := by decide +kernel
theorem dX9_isTaken_71 : decode cX9_isTaken 71 = .ok (.aload_n 3, 1) := by decide +kernel
theorem dX9_isTaken_72 : decode cX9_isTaken 72 = .ok (.getfield 51, 3) := by decide +kernel
theorem dX9_isTaken_75 : decode cX9_isTaken 75 = .ok (.invokevirtual 41, 3) := by decide +kernel
theorem dX9_isTaken_78 : decode cX9_isTaken 78 = .ok (.ifCond .ne 14, 3) := by decide +kernel
theorem dX9_isTaken_81 : decode cX9_isTaken 81 = .ok (.aload_n 3, 1) := by decide +kernel
theorem dX9_isTaken_82 : decode cX9_isTaken 82 = .ok (.getfield 51, 3) := by decide +kernel
theorem dX9_isTaken_85 : decode cX9_isTaken 85 = .ok (.aload_n 1, 1) := by decide +kernel
theorem dX9_isTaken_86 : decode cX9_isTaken 86 = .ok (.invokevirtual 41, 3) := by decide +kernel
theorem dX9_isTaken_89 : decode cX9_isTaken 89 = .ok (.ifCond .eq 5, 3) := by decide +kernel
theorem dX9_isTaken_92 : decode cX9_isTaken 92 = .ok (.iconst 1, 1) := by decide +kernel
theorem dX9_isTaken_93 : decode cX9_isTaken 93 = .ok (.ireturn, 1) := by decide +kernel
theorem dX9_isTaken_94 : decode cX9_isTaken 94 = .ok (.iinc 2 1, 3) := by decide +kernel
theorem dX9_isTaken_97 : decode cX9_isTaken 97 = .ok (.goto (-45), 3) := by decide +kernel
theorem dX9_isTaken_100 : decode cX9_isTaken 100 = .ok (.iconst 0, 1) := by decide +kernel
theorem dX9_isTaken_101 : decode cX9_isTaken 101 = .ok (.ireturn, 1) := by decide +kernel
theorem dX9_addThing_0 : decode cX9_addThing 0 = .ok (.aload_n 0, 1) := by decide +kernel
theorem dX9_addThing_1 : decode cX9_addThing 1 = .ok (.getfield 26, 3) := by decide +kernel
theorem dX9_addThing_4 : decode cX9_addThing 4 = .ok (.ifCond .lt 15, 3) := by decide +kernel
theorem dX9_addThing_7 : decode cX9_addThing 7 = .ok (.aload_n 0, 1) := by decide +kernel
theorem dX9_addThing_8 : decode cX9_addThing 8 = .ok (.getfield 26, 3) := by decide +kernel
theorem dX9_addThing_11 : decode cX9_addThing 11 = .ok (.aload_n 0, 1) := by decide +kernel
theorem dX9_addThing_12 : decode cX9_addThing 12 = .ok (.getfield 11, 3) := by decide +kernel
theorem dX9_addThing_15 : decode cX9_addThing 15 = .ok (.arraylength, 1) := by decide +kernel
theorem dX9_addThing_16 : decode cX9_addThing 16 = .ok (.if_icmp .lt 6, 3) := by decide +kernel
theorem dX9_addThing_19 : decode cX9_addThing 19 = .ok (.bipush (-4), 2) := by decide +kernel
theorem dX9_addThing_21 : decode cX9_addThing 21 = .ok (.ireturn, 1) := by decide +kernel
theorem dX9_addThing_22 : decode cX9_addThing 22 = .ok (.aload_n 0, 1) := by decide +kernel
theorem dX9_addThing_23 : decode cX9_addThing 23 = .ok (.getfield 11, 3) := by decide +kernel
theorem dX9_addThing_26 : decode cX9_addThing 26 = .ok (.aload_n 0, 1) := by decide +kernel
theorem dX9_addThing_27 : decode cX9_addThing 27 = .ok (.getfield 26, 3) := by decide +kernel
theorem dX9_addThing_30 : decode cX9_addThing 30 = .ok (.aload_n 1, 1) := by decide +kernel
theorem dX9_addThing_31 : decode cX9_addThing 31 = .ok (.aastore, 1) := by decide +kernel
theorem dX9_addThing_32 : decode cX9_addThing 32 = .ok (.aload_n 0, 1) := by decide +kernel
theorem dX9_addThing_33 : decode cX9_addThing 33 = .ok (.dup, 1) := by decide +kernel
theorem dX9_addThing_34 : decode cX9_addThing 34 = .ok (.getfield 26, 3) := by decide +kernel
theorem dX9_addThing_37 : decode cX9_addThing 37 = .ok (.iconst 1, 1) := by decide +kernel
theorem dX9_addThing_38 : decode cX9_addThing 38 = .ok (.iadd, 1) := by decide +kernel
theorem dX9_addThing_39 : decode cX9_addThing 39 = .ok (.putfield 26, 3) := by decide +kernel
theorem dX9_addThing_42 : decode cX9_addThing 42 = .ok (.aload_n 0, 1) := by decide +kernel
theorem dX9_addThing_43 : decode cX9_addThing 43 = .ok (.aload_n 1, 1) := by decide +kernel
theorem dX9_addThing_44 : decode cX9_addThing 44 = .ok (.invokevirtual 52, 3) := by decide +kernel
theorem dX9_addThing_47 : decode cX9_addThing 47 = .ok (.aload_n 0, 1) := by decide +kernel
theorem dX9_addThing_48 : decode cX9_addThing 48 = .ok (.getfield 26, 3) := by decide +kernel
theorem dX9_addThing_51 : decode cX9_addThing 51 = .ok (.iconst 1, 1) := by decide +kernel
theorem dX9_addThing_52 : decode cX9_addThing 52 = .ok (.isub, 1) := by decide +kernel
theorem dX9_addThing_53 : decode cX9_addThing 53 = .ok (.ireturn, 1) := by decide +kernel
theorem dX9_putInOrder_0 : decode cX9_putInOrder 0 = .ok (.aload_n 1, 1) := by decide +kernel
theorem dX9_putInOrder_1 : decode cX9_putInOrder 1 = .ok (.astore_n 2, 1) := by decide +kernel
theorem dX9_putInOrder_2 : decode cX9_putInOrder 2 = .ok (.iconst 0, 1) := by decide +kernel
theorem dX9_putInOrder_3 : decode cX9_putInOrder 3 = .ok (.istore_n 3, 1) := by decide +kernel
theorem dX9_putInOrder_4 : decode cX9_putInOrder 4 = .ok (.iload_n 3, 1) := by decide +kernel
theorem dX9_putInOrder_5 : decode cX9_putInOrder 5 = .ok (.aload_n 0, 1) := by decide +kernel
theorem dX9_putInOrder_6 : decode cX9_putInOrder 6 = .ok (.getfield 26, 3) := by decide +kernel
theorem dX9_putInOrder_9 : decode cX9_putInOrder 9 = .ok (.if_icmp .ge 61, 3) := by decide +kernel
theorem dX9_putInOrder_12 : decode cX9_putInOrder 12 = .ok (.iload_n 3, 1) := by decide +kernel
theorem dX9_putInOrder_13 : decode cX9_putInOrder 13 = .ok (.aload_n 0, 1) := by decide +kernel
theorem dX9_putInOrder_14 : decode cX9_putInOrder 14 = .ok (.getfield 17, 3) := by decide +kernel
theorem dX9_putInOrder_17 : decode cX9_putInOrder 17 = .ok (.arraylength, 1) := by decide +kernel
theorem dX9_putInOrder_18 : decode cX9_putInOrder 18 = .ok (.if_icmp .ge 52, 3) := by decide +kernel
theorem dX9_putInOrder_21 : decode cX9_putInOrder 21 = .ok (.aload_n 0, 1) := by decide +kernel
theorem dX9_putInOrder_22 : decode cX9_putInOrder 22 = .ok (.getfield 17, 3) := by decide +kernel
theorem dX9_putInOrder_25 : decode cX9_putInOrder 25 = .ok (.iload_n 3, 1) := by decide +kernel
theorem dX9_putInOrder_26 : decode cX9_putInOrder 26 = .ok (.aaload, 1) := by decide +kernel
theorem dX9_putInOrder_27 : decode cX9_putInOrder 27 = .ok (.astore 4, 2) := by decide +kernel
theorem dX9_putInOrder_29 : decode cX9_putInOrder 29 = .ok (.aload 4, 2) := by decide +kernel
theorem dX9_putInOrder_31 : decode cX9_putInOrder 31 = .ok (.ifnull 18, 3) := by decide +kernel
theorem dX9_putInOrder_34 : decode cX9_putInOrder 34 = .ok (.aload_n 2, 1) := by decide +kernel
theorem dX9_putInOrder_35 : decode cX9_putInOrder 35 = .ok (.getfield 37, 3) := by decide +kernel
theorem dX9_putInOrder_38 : decode cX9_putInOrder 38 = .ok (.aload 4, 2) := by decide +kernel
theorem dX9_putInOrder_40 : decode cX9_putInOrder 40 = .ok (.getfield 37, 3) := by decide +kernel
theorem dX9_putInOrder_43 : decode cX9_putInOrder 43 = .ok (.invokevirtual 56, 3) := by decide +kernel
theorem dX9_putInOrder_46 : decode cX9_putInOrder 46 = .ok (.ifCond .eq 13, 3) := by decide +kernel
theorem dX9_putInOrder_49 : decode cX9_putInOrder 49 = .ok (.aload_n 0, 1) := by decide +kernel
theorem dX9_putInOrder_50 : decode cX9_putInOrder 50 = .ok (.getfield 17, 3) := by decide +kernel
theorem dX9_putInOrder_53 : decode cX9_putInOrder 53 = .ok (.iload_n 3, 1) := by decide +kernel
theorem dX9_putInOrder_54 : decode cX9_putInOrder 54 = .ok (.aload_n 2, 1) := by decide +kernel
theorem dX9_putInOrder_55 : decode cX9_putInOrder 55 = .ok (.aastore, 1) := by decide +kernel
theorem dX9_putInOrder_56 : decode cX9_putInOrder 56 = .ok (.aload 4, 2) := by decide +kernel
theorem dX9_putInOrder_58 : decode cX9_putInOrder 58 = .ok (.astore_n 2, 1) := by decide +kernel
theorem dX9_putInOrder_59 : decode cX9_putInOrder 59 = .ok (.aload_n 2, 1) := by decide +kernel
theorem dX9_putInOrder_60 : decode cX9_putInOrder 60 = .ok (.ifnonnull 4, 3) := by decide +kernel
theorem dX9_putInOrder_63 : decode cX9_putInOrder 63 = .ok (.return_, 1) := by decide +kernel
theorem dX9_putInOrder_64 : decode cX9_putInOrder 64 = .ok (.iinc 3 1, 3) := by decide +kernel
theorem dX9_putInOrder_67 : decode cX9_putInOrder 67 = .ok (.goto (-63), 3) := by decide +kernel
theorem dX9_putInOrder_70 : decode cX9_putInOrder 70 = .ok (.return_, 1) := by decide +kernel
theorem dX9_addTable_0 : decode cX9_addTable 0 = .ok (.aload_n 0, 1) := by decide +kernel
theorem dX9_addTable_1 : decode cX9_addTable 1 = .ok (.getfield 30, 3) := by decide +kernel
theorem dX9_addTable_4 : decode cX9_addTable 4 = .ok (.ifCond .lt 15, 3) := by decide +kernel
theorem dX9_addTable_7 : decode cX9_addTable 7 = .ok (.aload_n 0, 1) := by decide +kernel
theorem dX9_addTable_8 : decode cX9_addTable 8 = .ok (.getfield 30, 3) := by decide +kernel
theorem dX9_addTable_11 : decode cX9_addTable 11 = .ok (.aload_n 0, 1) := by decide +kernel
theorem dX9_addTable_12 : decode cX9_addTable 12 = .ok (.getfield 22, 3) := by decide +kernel
theorem dX9_addTable_15 : decode cX9_addTable 15 = .ok (.arraylength, 1) := by decide +kernel
theorem dX9_addTable_16 : decode cX9_addTable 16 = .ok (.if_icmp .lt 6, 3) := by decide +kernel
theorem dX9_addTable_19 : decode cX9_addTable 19 = .ok (.bipush (-4), 2) := by decide +kernel
theorem dX9_addTable_21 : decode cX9_addTable 21 = .ok (.ireturn, 1) := by decide +kernel
theorem dX9_addTable_22 : decode cX9_addTable 22 = .ok (.aload_n 0, 1) := by decide +kernel
theorem dX9_addTable_23 : decode cX9_addTable 23 = .ok (.getfield 22, 3) := by decide +kernel
theorem dX9_addTable_26 : decode cX9_addTable 26 = .ok (.aload_n 0, 1) := by decide +kernel
theorem dX9_addTable_27 : decode cX9_addTable 27 = .ok (.getfield 30, 3) := by decide +kernel
theorem dX9_addTable_30 : decode cX9_addTable 30 = .ok (.aload_n 1, 1) := by decide +kernel
theorem dX9_addTable_31 : decode cX9_addTable 31 = .ok (.aastore, 1) := by decide +kernel
theorem dX9_addTable_32 : decode cX9_addTable 32 = .ok (.aload_n 0, 1) := by decide +kernel
theorem dX9_addTable_33 : decode cX9_addTable 33 = .ok (.dup, 1) := by decide +kernel
theorem dX9_addTable_34 : decode cX9_addTable 34 = .ok (.getfield 30, 3) := by decide +kernel
theorem dX9_addTable_37 : decode cX9_addTable 37 = .ok (.iconst 1, 1) := by decide +kernel
theorem dX9_addTable_38 : decode cX9_addTable 38 = .ok (.iadd, 1) := by decide +kernel
theorem dX9_addTable_39 : decode cX9_addTable 39 = .ok (.putfield 30, 3) := by decide +kernel
theorem dX9_addTable_42 : decode cX9_addTable 42 = .ok (.aload_n 0, 1) := by decide +kernel
theorem dX9_addTable_43 : decode cX9_addTable 43 = .ok (.getfield 30, 3) := by decide +kernel
theorem dX9_addTable_46 : decode cX9_addTable 46 = .ok (.iconst 1, 1) := by decide +kernel
theorem dX9_addTable_47 : decode cX9_addTable 47 = .ok (.isub, 1) := by decide +kernel
theorem dX9_addTable_48 : decode cX9_addTable 48 = .ok (.ireturn, 1) := by decide +kernel
theorem dX9_thingFor_0 : decode cX9_thingFor 0 = .ok (.iconst 0, 1) := by decide +kernel
theorem dX9_thingFor_1 : decode cX9_thingFor 1 = .ok (.istore_n 2, 1) := by decide +kernel
theorem dX9_thingFor_2 : decode cX9_thingFor 2 = .ok (.iload_n 2, 1) := by decide +kernel
theorem dX9_thingFor_3 : decode cX9_thingFor 3 = .ok (.aload_n 0, 1) := by decide +kernel
theorem dX9_thingFor_4 : decode cX9_thingFor 4 = .ok (.getfield 26, 3) := by decide +kernel
theorem dX9_thingFor_7 : decode cX9_thingFor 7 = .ok (.if_icmp .ge 32, 3) := by decide +kernel
theorem dX9_thingFor_10 : decode cX9_thingFor 10 = .ok (.aload_n 0, 1) := by decide +kernel
theorem dX9_thingFor_11 : decode cX9_thingFor 11 = .ok (.iload_n 2, 1) := by decide +kernel
theorem dX9_thingFor_12 : decode cX9_thingFor 12 = .ok (.invokevirtual 33, 3) := by decide +kernel
theorem dX9_thingFor_15 : decode cX9_thingFor 15 = .ok (.astore_n 3, 1) := by decide +kernel
theorem dX9_thingFor_16 : decode cX9_thingFor 16 = .ok (.aload_n 3, 1) := by decide +kernel
theorem dX9_thingFor_17 : decode cX9_thingFor 17 = .ok (.ifnull 16, 3) := by decide +kernel
theorem dX9_thingFor_20 : decode cX9_thingFor 20 = .ok (.aload_n 1, 1) := by decide +kernel
theorem dX9_thingFor_21 : decode cX9_thingFor 21 = .ok (.aload_n 3, 1) := by decide +kernel
theorem dX9_thingFor_22 : decode cX9_thingFor 22 = .ok (.getfield 37, 3) := by decide +kernel
theorem dX9_thingFor_25 : decode cX9_thingFor 25 = .ok (.invokevirtual 41, 3) := by decide +kernel
theorem dX9_thingFor_28 : decode cX9_thingFor 28 = .ok (.ifCond .eq 5, 3) := by decide +kernel
theorem dX9_thingFor_31 : decode cX9_thingFor 31 = .ok (.aload_n 3, 1) := by decide +kernel
theorem dX9_thingFor_32 : decode cX9_thingFor 32 = .ok (.areturn, 1) := by decide +kernel
theorem dX9_thingFor_33 : decode cX9_thingFor 33 = .ok (.iinc 2 1, 3) := by decide +kernel
theorem dX9_thingFor_36 : decode cX9_thingFor 36 = .ok (.goto (-34), 3) := by decide +kernel
theorem dX9_thingFor_39 : decode cX9_thingFor 39 = .ok (.aconst_null, 1) := by decide +kernel
theorem dX9_thingFor_40 : decode cX9_thingFor 40 = .ok (.areturn, 1) := by decide +kernel
theorem dX10_init_0 : decode cX10_init 0 = .ok (.aload_n 0, 1) := by decide +kernel
theorem dX10_init_1 : decode cX10_init 1 = .ok (.invokespecial 3, 3) := by decide +kernel
theorem dX10_init_4 : decode cX10_init 4 = .ok (.aload_n 0, 1) := by decide +kernel
theorem dX10_init_5 : decode cX10_init 5 = .ok (.iload_n 1, 1) := by decide +kernel
theorem dX10_init_6 : decode cX10_init 6 = .ok (.putfield 9, 3) := by decide +kernel
theorem dX10_init_9 : decode cX10_init 9 = .ok (.aload_n 0, 1) := by decide +kernel
theorem dX10_init_10 : decode cX10_init 10 = .ok (.new 15, 3) := by decide +kernel
theorem dX10_init_13 : decode cX10_init 13 = .ok (.dup, 1) := by decide +kernel
theorem dX10_init_14 : decode cX10_init 14 = .ok (.iload_n 2, 1) := by decide +kernel
theorem dX10_init_15 : decode cX10_init 15 = .ok (.invokespecial 17, 3) := by decide +kernel
theorem dX10_init_18 : decode cX10_init 18 = .ok (.putfield 20, 3) := by decide +kernel
theorem dX10_init_21 : decode cX10_init 21 = .ok (.return_, 1) := by decide +kernel
theorem dX10_isOfParts_0 : decode cX10_isOfParts 0 = .ok (.aload_n 0, 1) := by decide +kernel
theorem dX10_isOfParts_1 : decode cX10_isOfParts 1 = .ok (.getfield 9, 3) := by decide +kernel
theorem dX10_isOfParts_4 : decode cX10_isOfParts 4 = .ok (.iconst 4, 1) := by decide +kernel
theorem dX10_isOfParts_5 : decode cX10_isOfParts 5 = .ok (.if_icmp .eq 12, 3) := by decide +kernel
theorem dX10_isOfParts_8 : decode cX10_isOfParts 8 = .ok (.aload_n 0, 1) := by decide +kernel
theorem dX10_isOfParts_9 : decode cX10_isOfParts 9 = .ok (.getfield 9, 3) := by decide +kernel
theorem dX10_isOfParts_12 : decode cX10_isOfParts 12 = .ok (.bipush 6, 2) := by decide +kernel
theorem dX10_isOfParts_14 : decode cX10_isOfParts 14 = .ok (.if_icmp .ne 7, 3) := by decide +kernel
theorem dX10_isOfParts_17 : decode cX10_isOfParts 17 = .ok (.iconst 1, 1) := by decide +kernel
theorem dX10_isOfParts_18 : decode cX10_isOfParts 18 = .ok (.goto 4, 3) := by decide +kernel
theorem dX10_isOfParts_21 : decode cX10_isOfParts 21 = .ok (.iconst 0, 1) := by decide +kernel
theorem dX10_isOfParts_22 : decode cX10_isOfParts 22 = .ok (.ireturn, 1) := by decide +kernel
theorem dX10_isMissing_0 : decode cX10_isMissing 0 = .ok (.aload_n 0, 1) := by decide +kernel
theorem dX10_isMissing_1 : decode cX10_isMissing 1 = .ok (.getfield 9, 3) := by decide +kernel
theorem dX10_isMissing_4 : decode cX10_isMissing 4 = .ok (.sipush 128, 3) := by decide +kernel
theorem dX10_isMissing_7 : decode cX10_isMissing 7 = .ok (.if_icmp .eq 23, 3) := by decide +kernel
theorem dX10_isMissing_10 : decode cX10_isMissing 10 = .ok (.aload_n 0, 1) := by decide +kernel
theorem dX10_isMissing_11 : decode cX10_isMissing 11 = .ok (.getfield 9, 3) := by decide +kernel
theorem dX10_isMissing_14 : decode cX10_isMissing 14 = .ok (.sipush 129, 3) := by decide +kernel
theorem dX10_isMissing_17 : decode cX10_isMissing 17 = .ok (.if_icmp .eq 13, 3) := by decide +kernel
theorem dX10_isMissing_20 : decode cX10_isMissing 20 = .ok (.aload_n 0, 1) := by decide +kernel
theorem dX10_isMissing_21 : decode cX10_isMissing 21 = .ok (.getfield 9, 3) := by decide +kernel
theorem dX10_isMissing_24 : decode cX10_isMissing 24 = .ok (.sipush 130, 3) := by decide +kernel
theorem dX10_isMissing_27 : decode cX10_isMissing 27 = .ok (.if_icmp .ne 7, 3) := by decide +kernel
theorem dX10_isMissing_30 : decode cX10_isMissing 30 = .ok (.iconst 1, 1) := by decide +kernel
theorem dX10_isMissing_31 : decode cX10_isMissing 31 = .ok (.goto 4, 3) := by decide +kernel
theorem dX10_isMissing_34 : decode cX10_isMissing 34 = .ok (.iconst 0, 1) := by decide +kernel
theorem dX10_isMissing_35 : decode cX10_isMissing 35 = .ok (.ireturn, 1) := by decide +kernel
theorem dX10_becomeEmpty_0 : decode cX10_becomeEmpty 0 = .ok (.aload_n 0, 1) := by decide +kernel
theorem dX10_becomeEmpty_1 : decode cX10_becomeEmpty 1 = .ok (.iload_n 1, 1) := by decide +kernel
theorem dX10_becomeEmpty_2 : decode cX10_becomeEmpty 2 = .ok (.putfield 9, 3) := by decide +kernel
theorem dX10_becomeEmpty_5 : decode cX10_becomeEmpty 5 = .ok (.aload_n 0, 1) := by decide +kernel
theorem dX10_becomeEmpty_6 : decode cX10_becomeEmpty 6 = .ok (.lconst 0, 1) := by decide +kernel
theorem dX10_becomeEmpty_7 : decode cX10_becomeEmpty 7 = .ok (.putfield 24, 3) := by decide +kernel
theorem dX10_becomeEmpty_10 : decode cX10_becomeEmpty 10 = .ok (.aload_n 0, 1) := by decide +kernel
theorem dX10_becomeEmpty_11 : decode cX10_becomeEmpty 11 = .ok (.getfield 20, 3) := by decide +kernel
theorem dX10_becomeEmpty_14 : decode cX10_becomeEmpty 14 = .ok (.invokevirtual 28, 3) := by decide +kernel
theorem dX10_becomeEmpty_17 : decode cX10_becomeEmpty 17 = .ok (.return_, 1) := by decide +kernel
theorem dX10_becomeFirst_0 : decode cX10_becomeFirst 0 = .ok (.aload_n 0, 1) := by decide +kernel
theorem dX10_becomeFirst_1 : decode cX10_becomeFirst 1 = .ok (.aload_n 0, 1) := by decide +kernel
theorem dX10_becomeFirst_2 : decode cX10_becomeFirst 2 = .ok (.getfield 9, 3) := by decide +kernel
theorem dX10_becomeFirst_5 : decode cX10_becomeFirst 5 = .ok (.invokevirtual 31, 3) := by decide +kernel
theorem dX10_becomeFirst_8 : decode cX10_becomeFirst 8 = .ok (.aload_n 0, 1) := by decide +kernel
theorem dX10_becomeFirst_9 : decode cX10_becomeFirst 9 = .ok (.getfield 9, 3) := by decide +kernel
theorem dX10_becomeFirst_12 : decode cX10_becomeFirst 12 = .ok (.bipush 6, 2) := by decide +kernel
theorem dX10_becomeFirst_14 : decode cX10_becomeFirst 14 = .ok (.if_icmp .ne 21, 3) := by decide +kernel
theorem dX10_becomeFirst_17 : decode cX10_becomeFirst 17 = .ok (.aload_n 0, 1) := by decide +kernel
theorem dX10_becomeFirst_18 : decode cX10_becomeFirst 18 = .ok (.getfield 20, 3) := by decide +kernel
theorem dX10_becomeFirst_21 : decode cX10_becomeFirst 21 = .ok (.lconst 0, 1) := by decide +kernel
theorem dX10_becomeFirst_22 : decode cX10_becomeFirst 22 = .ok (.invokevirtual 34, 3) := by decide +kernel
theorem dX10_becomeFirst_25 : decode cX10_becomeFirst 25 = .ok (.pop, 1) := by decide +kernel
theorem dX10_becomeFirst_26 : decode cX10_becomeFirst 26 = .ok (.aload_n 0, 1) := by decide +kernel
theorem dX10_becomeFirst_27 : decode cX10_becomeFirst 27 = .ok (.getfield 20, 3) := by decide +kernel
theorem dX10_becomeFirst_30 : decode cX10_becomeFirst 30 = .ok (.lconst 0, 1) := by decide +kernel
theorem dX10_becomeFirst_31 : decode cX10_becomeFirst 31 = .ok (.invokevirtual 34, 3) := by decide +kernel
theorem dX10_becomeFirst_34 : decode cX10_becomeFirst 34 = .ok (.pop, 1) := by decide +kernel
theorem dX10_becomeFirst_35 : decode cX10_becomeFirst 35 = .ok (.return_, 1) := by decide +kernel
theorem dX10_copy_0 : decode cX10_copy 0 = .ok (.aload_n 0, 1) := by decide +kernel
theorem dX10_copy_1 : decode cX10_copy 1 = .ok (.aload_n 1, 1) := by decide +kernel
theorem dX10_copy_2 : decode cX10_copy 2 = .ok (.getfield 9, 3) := by decide +kernel
theorem dX10_copy_5 : decode cX10_copy 5 = .ok (.putfield 9, 3) := by decide +kernel
theorem dX10_copy_8 : decode cX10_copy 8 = .ok (.aload_n 0, 1) := by decide +kernel
theorem dX10_copy_9 : decode cX10_copy 9 = .ok (.aload_n 1, 1) := by decide +kernel
theorem dX10_copy_10 : decode cX10_copy 10 = .ok (.getfield 24, 3) := by decide +kernel
theorem dX10_copy_13 : decode cX10_copy 13 = .ok (.putfield 24, 3) := by decide +kernel
theorem dX10_copy_16 : decode cX10_copy 16 = .ok (.aload_n 0, 1) := by decide +kernel
theorem dX10_copy_17 : decode cX10_copy 17 = .ok (.getfield 20, 3) := by decide +kernel
theorem dX10_copy_20 : decode cX10_copy 20 = .ok (.aload_n 1, 1) := by decide +kernel
theorem dX10_copy_21 : decode cX10_copy 21 = .ok (.getfield 20, 3) := by decide +kernel
theorem dX10_copy_24 : decode cX10_copy 24 = .ok (.invokevirtual 38, 3) := by decide +kernel
theorem dX10_copy_27 : decode cX10_copy 27 = .ok (.return_, 1) := by decide +kernel
theorem dX11_init_0 : decode cX11_init 0 = .ok (.aload_n 0, 1) := by decide +kernel
theorem dX11_init_1 : decode cX11_init 1 = .ok (.invokespecial 1, 3) := by decide +kernel
theorem dX11_init_4 : decode cX11_init 4 = .ok (.aload_n 0, 1) := by decide +kernel
theorem dX11_init_5 : decode cX11_init 5 = .ok (.new 7, 3) := by decide +kernel
theorem dX11_init_8 : decode cX11_init 8 = .ok (.dup, 1) := by decide +kernel
theorem dX11_init_9 : decode cX11_init 9 = .ok (.sipush 1200, 3) := by decide +kernel
theorem dX11_init_12 : decode cX11_init 12 = .ok (.invokespecial 11, 3) := by decide +kernel
theorem dX11_init_15 : decode cX11_init 15 = .ok (.putfield 14, 3) := by decide +kernel
theorem dX11_init_18 : decode cX11_init 18 = .ok (.aload_n 0, 1) := by decide +kernel
theorem dX11_init_19 : decode cX11_init 19 = .ok (.new 7, 3) := by decide +kernel
theorem dX11_init_22 : decode cX11_init 22 = .ok (.dup, 1) := by decide +kernel
theorem dX11_init_23 : decode cX11_init 23 = .ok (.bipush 16, 2) := by decide +kernel
theorem dX11_init_25 : decode cX11_init 25 = .ok (.invokespecial 11, 3) := by decide +kernel
theorem dX11_init_28 : decode cX11_init 28 = .ok (.putfield 18, 3) := by decide +kernel
theorem dX11_init_31 : decode cX11_init 31 = .ok (.aload_n 0, 1) := by decide +kernel
theorem dX11_init_32 : decode cX11_init 32 = .ok (.new 21, 3) := by decide +kernel
theorem dX11_init_35 : decode cX11_init 35 = .ok (.dup, 1) := by decide +kernel
theorem dX11_init_36 : decode cX11_init 36 = .ok (.invokespecial 23, 3) := by decide +kernel
theorem dX11_init_39 : decode cX11_init 39 = .ok (.putfield 24, 3) := by decide +kernel
theorem dX11_init_42 : decode cX11_init 42 = .ok (.aload_n 0, 1) := by decide +kernel
theorem dX11_init_43 : decode cX11_init 43 = .ok (.bipush 8, 2) := by decide +kernel
theorem dX11_init_45 : decode cX11_init 45 = .ok (.anewarray 28, 3) := by decide +kernel
theorem dX11_init_48 : decode cX11_init 48 = .ok (.putfield 30, 3) := by decide +kernel
theorem dX11_init_51 : decode cX11_init 51 = .ok (.aload_n 0, 1) := by decide +kernel
theorem dX11_init_52 : decode cX11_init 52 = .ok (.new 34, 3) := by decide +kernel
theorem dX11_init_55 : decode cX11_init 55 = .ok (.dup, 1) := by decide +kernel
theorem dX11_init_56 : decode cX11_init 56 = .ok (.invokespecial 36, 3) := by decide +kernel
theorem dX11_init_59 : decode cX11_init 59 = .ok (.putfield 37, 3) := by decide +kernel
theorem dX11_init_62 : decode cX11_init 62 = .ok (.aload_n 0, 1) := by decide +kernel
theorem dX11_init_63 : decode cX11_init 63 = .ok (.new 41, 3) := by decide +kernel
theorem dX11_init_66 : decode cX11_init 66 = .ok (.dup, 1) := by decide +kernel
theorem dX11_init_67 : decode cX11_init 67 = .ok (.aload_n 0, 1) := by decide +kernel
theorem dX11_init_68 : decode cX11_init 68 = .ok (.getfield 14, 3) := by decide +kernel
theorem dX11_init_71 : decode cX11_init 71 = .ok (.invokespecial 43, 3) := by decide +kernel
theorem dX11_init_74 : decode cX11_init 74 = .ok (.putfield 46, 3) := by decide +kernel
theorem dX11_init_77 : decode cX11_init 77 = .ok (.aload_n 0, 1) := by decide +kernel
theorem dX11_init_78 : decode cX11_init 78 = .ok (.new 50, 3) := by decide +kernel
theorem dX11_init_81 : decode cX11_init 81 = .ok (.dup, 1) := by decide +kernel
theorem dX11_init_82 : decode cX11_init 82 = .ok (.aload_n 0, 1) := by decide +kernel
theorem dX11_init_83 : decode cX11_init 83 = .ok (.getfield 24, 3) := by decide +kernel
theorem dX11_init_86 : decode cX11_init 86 = .ok (.aload_n 0, 1) := by decide +kernel
theorem dX11_init_87 : decode cX11_init 87 = .ok (.getfield 37, 3) := by decide +kernel
theorem dX11_init_90 : decode cX11_init 90 = .ok (.invokespecial 52, 3) := by decide +kernel
theorem dX11_init_93 : decode cX11_init 93 = .ok (.putfield 55, 3) := by decide +kernel
theorem dX11_init_96 : decode cX11_init 96 = .ok (.aload_n 0, 1) := by decide +kernel
theorem dX11_init_97 : decode cX11_init 97 = .ok (.new 59, 3) := by decide +kernel
theorem dX11_init_100 : decode cX11_init 100 = .ok (.dup, 1) := by decide +kernel
theorem dX11_init_101 : decode cX11_init 101 = .ok (.invokespecial 61, 3) := by decide +kernel
theorem dX11_init_104 : decode cX11_init 104 = .ok (.putfield 62, 3) := by decide +kernel
theorem dX11_init_107 : decode cX11_init 107 = .ok (.aload_n 0, 1) := by decide +kernel
theorem dX11_init_108 : decode cX11_init 108 = .ok (.bipush 8, 2) := by decide +kernel
theorem dX11_init_110 : decode cX11_init 110 = .ok (.newarray .int, 2) := by decide +kernel
theorem dX11_init_112 : decode cX11_init 112 = .ok (.putfield 66, 3) := by decide +kernel
theorem dX11_init_115 : decode cX11_init 115 = .ok (.aload_n 0, 1) := by decide +kernel
theorem dX11_init_116 : decode cX11_init 116 = .ok (.new 7, 3) := by decide +kernel
theorem dX11_init_119 : decode cX11_init 119 = .ok (.dup, 1) := by decide +kernel
theorem dX11_init_120 : decode cX11_init 120 = .ok (.bipush 16, 2) := by decide +kernel
theorem dX11_init_122 : decode cX11_init 122 = .ok (.invokespecial 11, 3) := by decide +kernel
theorem dX11_init_125 : decode cX11_init 125 = .ok (.putfield 70, 3) := by decide +kernel
theorem dX11_init_128 : decode cX11_init 128 = .ok (.aload_n 0, 1) := by decide +kernel
theorem dX11_init_129 : decode cX11_init 129 = .ok (.new 73, 3) := by decide +kernel
theorem dX11_init_132 : decode cX11_init 132 = .ok (.dup, 1) := by decide +kernel
theorem dX11_init_133 : decode cX11_init 133 = .ok (.bipush 67, 2) := by decide +kernel
theorem dX11_init_135 : decode cX11_init 135 = .ok (.iconst 0, 1) := by decide +kernel
theorem dX11_init_136 : decode cX11_init 136 = .ok (.invokespecial 75, 3) := by decide +kernel
theorem dX11_init_139 : decode cX11_init 139 = .ok (.putfield 78, 3) := by decide +kernel
theorem dX11_init_142 : decode cX11_init 142 = .ok (.aload_n 0, 1) := by decide +kernel
theorem dX11_init_143 : decode cX11_init 143 = .ok (.new 73, 3) := by decide +kernel
theorem dX11_init_146 : decode cX11_init 146 = .ok (.dup, 1) := by decide +kernel
theorem dX11_init_147 : decode cX11_init 147 = .ok (.sipush 128, 3) := by decide +kernel
theorem dX11_init_150 : decode cX11_init 150 = .ok (.iconst 0, 1) := by decide +kernel
theorem dX11_init_151 : decode cX11_init 151 = .ok (.invokespecial 75, 3) := by decide +kernel
theorem dX11_init_154 : decode cX11_init 154 = .ok (.putfield 82, 3) := by decide +kernel
theorem dX11_init_157 : decode cX11_init 157 = .ok (.aload_n 0, 1) := by decide +kernel
theorem dX11_init_158 : decode cX11_init 158 = .ok (.new 73, 3) := by decide +kernel
theorem dX11_init_161 : decode cX11_init 161 = .ok (.dup, 1) := by decide +kernel
theorem dX11_init_162 : decode cX11_init 162 = .ok (.sipush 129, 3) := by decide +kernel
theorem dX11_init_165 : decode cX11_init 165 = .ok (.iconst 0, 1) := by decide +kernel
theorem dX11_init_166 : decode cX11_init 166 = .ok (.invokespecial 75, 3) := by decide +kernel
theorem dX11_init_169 : decode cX11_init 169 = .ok (.putfield 85, 3) := by decide +kernel
theorem dX11_init_172 : decode cX11_init 172 = .ok (.aload_n 0, 1) := by decide +kernel
theorem dX11_init_173 : decode cX11_init 173 = .ok (.new 73, 3) := by decide +kernel
theorem dX11_init_176 : decode cX11_init 176 = .ok (.dup, 1) := by decide +kernel
theorem dX11_init_177 : decode cX11_init 177 = .ok (.sipush 130, 3) := by decide +kernel
theorem dX11_init_180 : decode cX11_init 180 = .ok (.iconst 0, 1) := by decide +kernel
theorem dX11_init_181 : decode cX11_init 181 = .ok (.invokespecial 75, 3) := by decide +kernel
theorem dX11_init_184 : decode cX11_init 184 = .ok (.putfield 88, 3) := by decide +kernel
theorem dX11_init_187 : decode cX11_init 187 = .ok (.aload_n 0, 1) := by decide +kernel
theorem dX11_init_188 : decode cX11_init 188 = .ok (.sipush 484, 3) := by decide +kernel
theorem dX11_init_191 : decode cX11_init 191 = .ok (.putfield 91, 3) := by decide +kernel
theorem dX11_init_194 : decode cX11_init 194 = .ok (.return_, 1) := by decide +kernel
theorem dX11_feed_0 : decode cX11_feed 0 = .ok (.iload_n 3, 1) := by decide +kernel
theorem dX11_feed_1 : decode cX11_feed 1 = .ok (.ifCond .lt 9, 3) := by decide +kernel
theorem dX11_feed_4 : decode cX11_feed 4 = .ok (.iload_n 3, 1) := by decide +kernel
theorem dX11_feed_5 : decode cX11_feed 5 = .ok (.bipush 8, 2) := by decide +kernel
theorem dX11_feed_7 : decode cX11_feed 7 = .ok (.if_icmp .le 6, 3) := by decide +kernel
theorem dX11_feed_10 : decode cX11_feed 10 = .ok (.bipush (-2), 2) := by decide +kernel
theorem dX11_feed_12 : decode cX11_feed 12 = .ok (.ireturn, 1) := by decide +kernel
theorem dX11_feed_13 : decode cX11_feed 13 = .ok (.iload_n 3, 1) := by decide +kernel
theorem dX11_feed_14 : decode cX11_feed 14 = .ok (.ifCond .ne 12, 3) := by decide +kernel
theorem dX11_feed_17 : decode cX11_feed 17 = .ok (.aload_n 0, 1) := by decide +kernel
theorem dX11_feed_18 : decode cX11_feed 18 = .ok (.getfield 14, 3) := by decide +kernel
theorem dX11_feed_21 : decode cX11_feed 21 = .ok (.invokevirtual 95, 3) := by decide +kernel
theorem dX11_feed_24 : decode cX11_feed 24 = .ok (.iconst 0, 1) := by decide +kernel
theorem dX11_feed_25 : decode cX11_feed 25 = .ok (.ireturn, 1) := by decide +kernel
theorem dX11_feed_26 : decode cX11_feed 26 = .ok (.aload_n 0, 1) := by decide +kernel
theorem dX11_feed_27 : decode cX11_feed 27 = .ok (.getfield 14, 3) := by decide +kernel
theorem dX11_feed_30 : decode cX11_feed 30 = .ok (.invokevirtual 98, 3) := by decide +kernel
theorem dX11_feed_33 : decode cX11_feed 33 = .ok (.iload_n 3, 1) := by decide +kernel
theorem dX11_feed_34 : decode cX11_feed 34 = .ok (.iadd, 1) := by decide +kernel
theorem dX11_feed_35 : decode cX11_feed 35 = .ok (.sipush 1200, 3) := by decide +kernel
theorem dX11_feed_38 : decode cX11_feed 38 = .ok (.if_icmp .le 6, 3) := by decide +kernel
theorem dX11_feed_41 : decode cX11_feed 41 = .ok (.bipush (-4), 2) := by decide +kernel
theorem dX11_feed_43 : decode cX11_feed 43 = .ok (.ireturn, 1) := by decide +kernel
theorem dX11_feed_44 : decode cX11_feed 44 = .ok (.iload_n 3, 1) := by decide +kernel
theorem dX11_feed_45 : decode cX11_feed 45 = .ok (.iconst 1, 1) := by decide +kernel
theorem dX11_feed_46 : decode cX11_feed 46 = .ok (.isub, 1) := by decide +kernel
theorem dX11_feed_47 : decode cX11_feed 47 = .ok (.istore 4, 2) := by decide +kernel
theorem dX11_feed_49 : decode cX11_feed 49 = .ok (.iload 4, 2) := by decide +kernel
theorem dX11_feed_51 : decode cX11_feed 51 = .ok (.ifCond .lt 28, 3) := by decide +kernel
theorem dX11_feed_54 : decode cX11_feed 54 = .ok (.aload_n 0, 1) := by decide +kernel
theorem dX11_feed_55 : decode cX11_feed 55 = .ok (.getfield 14, 3) := by decide +kernel
theorem dX11_feed_58 : decode cX11_feed 58 = .ok (.lload_n 1, 1) := by decide +kernel
theorem dX11_feed_59 : decode cX11_feed 59 = .ok (.bipush 8, 2) := by decide +kernel
theorem dX11_feed_61 : decode cX11_feed 61 = .ok (.iload 4, 2) := by decide +kernel
theorem dX11_feed_63 : decode cX11_feed 63 = .ok (.imul, 1) := by decide +kernel
theorem dX11_feed_64 : decode cX11_feed 64 = .ok (.lushr, 1) := by decide +kernel
theorem dX11_feed_65 : decode cX11_feed 65 = .ok (.ldc2_w 102, 3) := by decide +kernel
theorem dX11_feed_68 : decode cX11_feed 68 = .ok (.land, 1) := by decide +kernel
theorem dX11_feed_69 : decode cX11_feed 69 = .ok (.invokevirtual 104, 3) := by decide +kernel
theorem dX11_feed_72 : decode cX11_feed 72 = .ok (.pop, 1) := by decide +kernel
theorem dX11_feed_73 : decode cX11_feed 73 = .ok (.iinc 4 (-1), 3) := by decide +kernel
theorem dX11_feed_76 : decode cX11_feed 76 = .ok (.goto (-27), 3) := by decide +kernel
theorem dX11_feed_79 : decode cX11_feed 79 = .ok (.aload_n 0, 1) := by decide +kernel
theorem dX11_feed_80 : decode cX11_feed 80 = .ok (.getfield 14, 3) := by decide +kernel
theorem dX11_feed_83 : decode cX11_feed 83 = .ok (.invokevirtual 98, 3) := by decide +kernel
theorem dX11_feed_86 : decode cX11_feed 86 = .ok (.ireturn, 1) := by decide +kernel
theorem dX11_number_0 : decode cX11_number 0 = .ok (.lload_n 1, 1) := by decide +kernel
theorem dX11_number_1 : decode cX11_number 1 = .ok (.ldc2_w 108, 3) := by decide +kernel
theorem dX11_number_4 : decode cX11_number 4 = .ok (.lcmp, 1) := by decide +kernel
theorem dX11_number_5 : decode cX11_number 5 = .ok (.ifCond .ne 12, 3) := by decide +kernel
theorem dX11_number_8 : decode cX11_number 8 = .ok (.aload_n 0, 1) := by decide +kernel
theorem dX11_number_9 : decode cX11_number 9 = .ok (.getfield 18, 3) := by decide +kernel
theorem dX11_number_12 : decode cX11_number 12 = .ok (.invokevirtual 95, 3) := by decide +kernel
theorem dX11_number_15 : decode cX11_number 15 = .ok (.iconst 0, 1) := by decide +kernel
theorem dX11_number_16 : decode cX11_number 16 = .ok (.ireturn, 1) := by decide +kernel
theorem dX11_number_17 : decode cX11_number 17 = .ok (.lload_n 1, 1) := by decide +kernel
theorem dX11_number_18 : decode cX11_number 18 = .ok (.lconst 0, 1) := by decide +kernel
theorem dX11_number_19 : decode cX11_number 19 = .ok (.lcmp, 1) := by decide +kernel
theorem dX11_number_20 : decode cX11_number 20 = .ok (.ifCond .lt 18, 3) := by decide +kernel
theorem dX11_number_23 : decode cX11_number 23 = .ok (.lload_n 1, 1) := by decide +kernel
theorem dX11_number_24 : decode cX11_number 24 = .ok (.aload_n 0, 1) := by decide +kernel
theorem dX11_number_25 : decode cX11_number 25 = .ok (.getfield 18, 3) := by decide +kernel
theorem dX11_number_28 : decode cX11_number 28 = .ok (.invokevirtual 98, 3) := by decide +kernel
theorem dX11_number_31 : decode cX11_number 31 = .ok (.invokestatic 110, 3) := by decide +kernel
theorem dX11_number_34 : decode cX11_number 34 = .ok (.lcmp, 1) := by decide +kernel
theorem dX11_number_35 : decode cX11_number 35 = .ok (.ifCond .le 6, 3) := by decide +kernel
theorem dX11_number_38 : decode cX11_number 38 = .ok (.bipush (-2), 2) := by decide +kernel
theorem dX11_number_40 : decode cX11_number 40 = .ok (.ireturn, 1) := by decide +kernel
theorem dX11_number_41 : decode cX11_number 41 = .ok (.aload_n 0, 1) := by decide +kernel
theorem dX11_number_42 : decode cX11_number 42 = .ok (.getfield 18, 3) := by decide +kernel
theorem dX11_number_45 : decode cX11_number 45 = .ok (.lload_n 1, 1) := by decide +kernel
theorem dX11_number_46 : decode cX11_number 46 = .ok (.invokevirtual 104, 3) := by decide +kernel
theorem dX11_number_49 : decode cX11_number 49 = .ok (.ifCond .eq 13, 3) := by decide +kernel
theorem dX11_number_52 : decode cX11_number 52 = .ok (.aload_n 0, 1) := by decide +kernel
theorem dX11_number_53 : decode cX11_number 53 = .ok (.getfield 18, 3) := by decide +kernel
theorem dX11_number_56 : decode cX11_number 56 = .ok (.invokevirtual 98, 3) := by decide +kernel
theorem dX11_number_59 : decode cX11_number 59 = .ok (.goto 5, 3) := by decide +kernel
theorem dX11_number_62 : decode cX11_number 62 = .ok (.bipush (-4), 2) := by decide +kernel
theorem dX11_number_64 : decode cX11_number 64 = .ok (.ireturn, 1) := by decide +kernel
theorem dX11_mostNumberAt_0 : decode cX11_mostNumberAt 0 = .ok (.iload_n 0, 1) := by decide +kernel
theorem dX11_mostNumberAt_1 : decode cX11_mostNumberAt 1 = .ok (.ifCond .ne 7, 3) := by decide +kernel
theorem dX11_mostNumberAt_4 : decode cX11_mostNumberAt 4 = .ok (.ldc2_w 114, 3) := by decide +kernel
theorem dX11_mostNumberAt_7 : decode cX11_mostNumberAt 7 = .ok (.lreturn, 1) := by decide +kernel
theorem dX11_mostNumberAt_8 : decode cX11_mostNumberAt 8 = .ok (.iload_n 0, 1) := by decide +kernel
theorem dX11_mostNumberAt_9 : decode cX11_mostNumberAt 9 = .ok (.iconst 1, 1) := by decide +kernel
theorem dX11_mostNumberAt_10 : decode cX11_mostNumberAt 10 = .ok (.if_icmp .ne 9, 3) := by decide +kernel
theorem dX11_mostNumberAt_13 : decode cX11_mostNumberAt 13 = .ok (.ldc2_w 116, 3) := by decide +kernel
theorem dX11_mostNumberAt_16 : decode cX11_mostNumberAt 16 = .ok (.goto 6, 3) := by decide +kernel
theorem dX11_mostNumberAt_19 : decode cX11_mostNumberAt 19 = .ok (.ldc2_w 118, 3) := by decide +kernel
theorem dX11_mostNumberAt_22 : decode cX11_mostNumberAt 22 = .ok (.lreturn, 1) := by decide +kernel
theorem dX11_scalar_0 : decode cX11_scalar 0 = .ok (.aload_n 0, 1) := by decide +kernel
theorem dX11_scalar_1 : decode cX11_scalar 1 = .ok (.iload_n 1, 1) := by decide +kernel
theorem dX11_scalar_2 : decode cX11_scalar 2 = .ok (.iload_n 2, 1) := by decide +kernel
theorem dX11_scalar_3 : decode cX11_scalar 3 = .ok (.lload_n 3, 1) := by decide +kernel
theorem dX11_scalar_4 : decode cX11_scalar 4 = .ok (.lload 5, 2) := by decide +kernel
theorem dX11_scalar_6 : decode cX11_scalar 6 = .ok (.invokevirtual 120, 3) := by decide +kernel
theorem dX11_scalar_9 : decode cX11_scalar 9 = .ok (.istore 7, 2) := by decide +kernel
theorem dX11_scalar_11 : decode cX11_scalar 11 = .ok (.aload_n 0, 1) := by decide +kernel
theorem dX11_scalar_12 : decode cX11_scalar 12 = .ok (.getfield 18, 3) := by decide +kernel
theorem dX11_scalar_15 : decode cX11_scalar 15 = .ok (.invokevirtual 95, 3) := by decide +kernel
theorem dX11_scalar_18 : decode cX11_scalar 18 = .ok (.iload 7, 2) := by decide +kernel
theorem dX11_scalar_20 : decode cX11_scalar 20 = .ok (.ireturn, 1) := by decide +kernel
theorem dX11_newScalar_0 : decode cX11_newScalar 0 = .ok (.iload_n 1, 1) := by decide +kernel
theorem dX11_newScalar_1 : decode cX11_newScalar 1 = .ok (.invokestatic 124, 3) := by decide +kernel
theorem dX11_newScalar_4 : decode cX11_newScalar 4 = .ok (.ifCond .eq 26, 3) := by decide +kernel
theorem dX11_newScalar_7 : decode cX11_newScalar 7 = .ok (.iload_n 2, 1) := by decide +kernel
theorem dX11_newScalar_8 : decode cX11_newScalar 8 = .ok (.invokestatic 128, 3) := by decide +kernel
theorem dX11_newScalar_11 : decode cX11_newScalar 11 = .ok (.ifCond .eq 19, 3) := by decide +kernel
theorem dX11_newScalar_14 : decode cX11_newScalar 14 = .ok (.lload_n 3, 1) := by decide +kernel
theorem dX11_newScalar_15 : decode cX11_newScalar 15 = .ok (.lload 5, 2) := by decide +kernel
theorem dX11_newScalar_17 : decode cX11_newScalar 17 = .ok (.lcmp, 1) := by decide +kernel
theorem dX11_newScalar_18 : decode cX11_newScalar 18 = .ok (.ifCond .gt 12, 3) := by decide +kernel
theorem dX11_newScalar_21 : decode cX11_newScalar 21 = .ok (.aload_n 0, 1) := by decide +kernel
theorem dX11_newScalar_22 : decode cX11_newScalar 22 = .ok (.bipush 15, 2) := by decide +kernel
theorem dX11_newScalar_24 : decode cX11_newScalar 24 = .ok (.invokevirtual 131, 3) := by decide +kernel
theorem dX11_newScalar_27 : decode cX11_newScalar 27 = .ok (.ifCond .ne 6, 3) := by decide +kernel
theorem dX11_newScalar_30 : decode cX11_newScalar 30 = .ok (.bipush (-2), 2) := by decide +kernel
theorem dX11_newScalar_32 : decode cX11_newScalar 32 = .ok (.ireturn, 1) := by decide +kernel
theorem dX11_newScalar_33 : decode cX11_newScalar 33 = .ok (.aload_n 0, 1) := by decide +kernel
theorem dX11_newScalar_34 : decode cX11_newScalar 34 = .ok (.getfield 24, 3) := by decide +kernel
theorem dX11_newScalar_37 : decode cX11_newScalar 37 = .ok (.aload_n 0, 1) := by decide +kernel
theorem dX11_newScalar_38 : decode cX11_newScalar 38 = .ok (.getfield 18, 3) := by decide +kernel
theorem dX11_newScalar_41 : decode cX11_newScalar 41 = .ok (.invokevirtual 134, 3) := by decide +kernel
theorem dX11_newScalar_44 : decode cX11_newScalar 44 = .ok (.ifCond .eq 6, 3) := by decide +kernel
theorem dX11_newScalar_47 : decode cX11_newScalar 47 = .ok (.bipush (-3), 2) := by decide +kernel
theorem dX11_newScalar_49 : decode cX11_newScalar 49 = .ok (.ireturn, 1) := by decide +kernel
theorem dX11_newScalar_50 : decode cX11_newScalar 50 = .ok (.aload_n 0, 1) := by decide +kernel
theorem dX11_newScalar_51 : decode cX11_newScalar 51 = .ok (.getfield 24, 3) := by decide +kernel
theorem dX11_newScalar_54 : decode cX11_newScalar 54 = .ok (.invokevirtual 138, 3) := by decide +kernel
theorem dX11_newScalar_57 : decode cX11_newScalar 57 = .ok (.bipush 40, 2) := by decide +kernel
theorem dX11_newScalar_59 : decode cX11_newScalar 59 = .ok (.if_icmp .lt 6, 3) := by decide +kernel
theorem dX11_newScalar_62 : decode cX11_newScalar 62 = .ok (.bipush (-4), 2) := by decide +kernel
theorem dX11_newScalar_64 : decode cX11_newScalar 64 = .ok (.ireturn, 1) := by decide +kernel
theorem dX11_newScalar_65 : decode cX11_newScalar 65 = .ok (.aload_n 0, 1) := by decide +kernel
theorem dX11_newScalar_66 : decode cX11_newScalar 66 = .ok (.getfield 24, 3) := by decide +kernel
theorem dX11_newScalar_69 : decode cX11_newScalar 69 = .ok (.new 141, 3) := by decide +kernel
theorem dX11_newScalar_72 : decode cX11_newScalar 72 = .ok (.dup, 1) := by decide +kernel
theorem dX11_newScalar_73 : decode cX11_newScalar 73 = .ok (.aload_n 0, 1) := by decide +kernel
theorem dX11_newScalar_74 : decode cX11_newScalar 74 = .ok (.getfield 18, 3) := by decide +kernel
theorem dX11_newScalar_77 : decode cX11_newScalar 77 = .ok (.iload_n 1, 1) := by decide +kernel
theorem dX11_newScalar_78 : decode cX11_newScalar 78 = .ok (.iload_n 2, 1) := by decide +kernel
theorem dX11_newScalar_79 : decode cX11_newScalar 79 = .ok (.lload_n 3, 1) := by decide +kernel
theorem dX11_newScalar_80 : decode cX11_newScalar 80 = .ok (.lload 5, 2) := by decide +kernel
theorem dX11_newScalar_82 : decode cX11_newScalar 82 = .ok (.aconst_null, 1) := by decide +kernel
theorem dX11_newScalar_83 : decode cX11_newScalar 83 = .ok (.invokespecial 143, 3) := by decide +kernel
theorem dX11_newScalar_86 : decode cX11_newScalar 86 = .ok (.invokevirtual 146, 3) := by decide +kernel
theorem dX11_newScalar_89 : decode cX11_newScalar 89 = .ok (.ireturn, 1) := by decide +kernel
theorem dX11_isObjectTag_0 : decode cX11_isObjectTag 0 = .ok (.iload_n 0, 1) := by decide +kernel
theorem dX11_isObjectTag_1 : decode cX11_isObjectTag 1 = .ok (.lookupswitch 77 #[(2, 75), (4, 75), (6, 75), (64, 75), (65, 75), (66, 75), (67, 75), (70, 75)], 75) := by decide +kernel
theorem dX11_isObjectTag_76 : decode cX11_isObjectTag 76 = .ok (.iconst 1, 1) := by decide +kernel
theorem dX11_isObjectTag_77 : decode cX11_isObjectTag 77 = .ok (.ireturn, 1) := by decide +kernel
theorem dX11_isObjectTag_78 : decode cX11_isObjectTag 78 = .ok (.iconst 0, 1) := by decide +kernel
theorem dX11_isObjectTag_79 : decode cX11_isObjectTag 79 = .ok (.ireturn, 1) := by decide +kernel
theorem dX11_isAccess_0 : decode cX11_isAccess 0 = .ok (.iload_n 0, 1) := by decide +kernel
theorem dX11_isAccess_1 : decode cX11_isAccess 1 = .ok (.ifCond .lt 12, 3) := by decide +kernel
theorem dX11_isAccess_4 : decode cX11_isAccess 4 = .ok (.iload_n 0, 1) := by decide +kernel
theorem dX11_isAccess_5 : decode cX11_isAccess 5 = .ok (.iconst 2, 1) := by decide +kernel
theorem dX11_isAccess_6 : decode cX11_isAccess 6 = .ok (.if_icmp .gt 7, 3) := by decide +kernel
theorem dX11_isAccess_9 : decode cX11_isAccess 9 = .ok (.iconst 1, 1) := by decide +kernel
theorem dX11_isAccess_10 : decode cX11_isAccess 10 = .ok (.goto 4, 3) := by decide +kernel
theorem dX11_isAccess_13 : decode cX11_isAccess 13 = .ok (.iconst 0, 1) := by decide +kernel
theorem dX11_isAccess_14 : decode cX11_isAccess 14 = .ok (.ireturn, 1) := by decide +kernel
theorem dX11_isNameAtHand_0 : decode cX11_isNameAtHand 0 = .ok (.aload_n 0, 1) := by decide +kernel
theorem dX11_isNameAtHand_1 : decode cX11_isNameAtHand 1 = .ok (.getfield 18, 3) := by decide +kernel
theorem dX11_isNameAtHand_4 : decode cX11_isNameAtHand 4 = .ok (.invokevirtual 98, 3) := by decide +kernel
theorem dX11_isNameAtHand_7 : decode cX11_isNameAtHand 7 = .ok (.iconst 2, 1) := by decide +kernel
theorem dX11_isNameAtHand_8 : decode cX11_isNameAtHand 8 = .ok (.if_icmp .lt 18, 3) := by decide +kernel
theorem dX11_isNameAtHand_11 : decode cX11_isNameAtHand 11 = .ok (.aload_n 0, 1) := by decide +kernel
theorem dX11_isNameAtHand_12 : decode cX11_isNameAtHand 12 = .ok (.getfield 18, 3) := by decide +kernel
theorem dX11_isNameAtHand_15 : decode cX11_isNameAtHand 15 = .ok (.invokevirtual 98, 3) := by decide +kernel
theorem dX11_isNameAtHand_18 : decode cX11_isNameAtHand 18 = .ok (.iload_n 1, 1) := by decide +kernel
theorem dX11_isNameAtHand_19 : decode cX11_isNameAtHand 19 = .ok (.if_icmp .gt 7, 3) := by decide +kernel
theorem dX11_isNameAtHand_22 : decode cX11_isNameAtHand 22 = .ok (.iconst 1, 1) := by decide +kernel
theorem dX11_isNameAtHand_23 : decode cX11_isNameAtHand 23 = .ok (.goto 4, 3) := by decide +kernel
theorem dX11_isNameAtHand_26 : decode cX11_isNameAtHand 26 = .ok (.iconst 0, 1) := by decide +kernel
theorem dX11_isNameAtHand_27 : decode cX11_isNameAtHand 27 = .ok (.ireturn, 1) := by decide +kernel
theorem dX11_table_0 : decode cX11_table 0 = .ok (.aload_n 0, 1) := by decide +kernel
theorem dX11_table_1 : decode cX11_table 1 = .ok (.invokevirtual 150, 3) := by decide +kernel
theorem dX11_table_4 : decode cX11_table 4 = .ok (.istore_n 1, 1) := by decide +kernel
theorem dX11_table_5 : decode cX11_table 5 = .ok (.aload_n 0, 1) := by decide +kernel
theorem dX11_table_6 : decode cX11_table 6 = .ok (.getfield 18, 3) := by decide +kernel
theorem dX11_table_9 : decode cX11_table 9 = .ok (.invokevirtual 95, 3) := by decide +kernel
theorem dX11_table_12 : decode cX11_table 12 = .ok (.iload_n 1, 1) := by decide +kernel
theorem dX11_table_13 : decode cX11_table 13 = .ok (.ireturn, 1) := by decide +kernel
theorem dX11_newTable_0 : decode cX11_newTable 0 = .ok (.aload_n 0, 1) := by decide +kernel
theorem dX11_newTable_1 : decode cX11_newTable 1 = .ok (.bipush 14, 2) := by decide +kernel
theorem dX11_newTable_3 : decode cX11_newTable 3 = .ok (.invokevirtual 131, 3) := by decide +kernel
theorem dX11_newTable_6 : decode cX11_newTable 6 = .ok (.ifCond .ne 6, 3) := by decide +kernel
theorem dX11_newTable_9 : decode cX11_newTable 9 = .ok (.bipush (-2), 2) := by decide +kernel
theorem dX11_newTable_11 : decode cX11_newTable 11 = .ok (.ireturn, 1) := by decide +kernel
theorem dX11_newTable_12 : decode cX11_newTable 12 = .ok (.aload_n 0, 1) := by decide +kernel
theorem dX11_newTable_13 : decode cX11_newTable 13 = .ok (.getfield 24, 3) := by decide +kernel
theorem dX11_newTable_16 : decode cX11_newTable 16 = .ok (.aload_n 0, 1) := by decide +kernel
theorem dX11_newTable_17 : decode cX11_newTable 17 = .ok (.getfield 18, 3) := by decide +kernel
theorem dX11_newTable_20 : decode cX11_newTable 20 = .ok (.invokevirtual 134, 3) := by decide +kernel
theorem dX11_newTable_23 : decode cX11_newTable 23 = .ok (.ifCond .eq 6, 3) := by decide +kernel
theorem dX11_newTable_26 : decode cX11_newTable 26 = .ok (.bipush (-3), 2) := by decide +kernel
theorem dX11_newTable_28 : decode cX11_newTable 28 = .ok (.ireturn, 1) := by decide +kernel
theorem dX11_newTable_29 : decode cX11_newTable 29 = .ok (.aload_n 0, 1) := by decide +kernel
theorem dX11_newTable_30 : decode cX11_newTable 30 = .ok (.getfield 24, 3) := by decide +kernel
theorem dX11_newTable_33 : decode cX11_newTable 33 = .ok (.invokevirtual 153, 3) := by decide +kernel
theorem dX11_newTable_36 : decode cX11_newTable 36 = .ok (.iconst 4, 1) := by decide +kernel
theorem dX11_newTable_37 : decode cX11_newTable 37 = .ok (.if_icmp .lt 6, 3) := by decide +kernel
theorem dX11_newTable_40 : decode cX11_newTable 40 = .ok (.bipush (-4), 2) := by decide +kernel
theorem dX11_newTable_42 : decode cX11_newTable 42 = .ok (.ireturn, 1) := by decide +kernel
theorem dX11_newTable_43 : decode cX11_newTable 43 = .ok (.aload_n 0, 1) := by decide +kernel
theorem dX11_newTable_44 : decode cX11_newTable 44 = .ok (.getfield 24, 3) := by decide +kernel
theorem dX11_newTable_47 : decode cX11_newTable 47 = .ok (.new 156, 3) := by decide +kernel
theorem dX11_newTable_50 : decode cX11_newTable 50 = .ok (.dup, 1) := by decide +kernel
theorem dX11_newTable_51 : decode cX11_newTable 51 = .ok (.aload_n 0, 1) := by decide +kernel
theorem dX11_newTable_52 : decode cX11_newTable 52 = .ok (.getfield 18, 3) := by decide +kernel
theorem dX11_newTable_55 : decode cX11_newTable 55 = .ok (.invokespecial 158, 3) := by decide +kernel
theorem dX11_newTable_58 : decode cX11_newTable 58 = .ok (.invokevirtual 159, 3) := by decide +kernel
theorem dX11_newTable_61 : decode cX11_newTable 61 = .ok (.ireturn, 1) := by decide +kernel
theorem dX11_column_0 : decode cX11_column 0 = .ok (.aload_n 0, 1) := by decide +kernel
theorem dX11_column_1 : decode cX11_column 1 = .ok (.getfield 24, 3) := by decide +kernel
theorem dX11_column_4 : decode cX11_column 4 = .ok (.iload_n 1, 1) := by decide +kernel
theorem dX11_column_5 : decode cX11_column 5 = .ok (.invokevirtual 163, 3) := by decide +kernel
theorem dX11_column_8 : decode cX11_column 8 = .ok (.astore 9, 2) := by decide +kernel
theorem dX11_column_10 : decode cX11_column 10 = .ok (.aload 9, 2) := by decide +kernel
theorem dX11_column_12 : decode cX11_column 12 = .ok (.ifnonnull 5, 3) := by decide +kernel
theorem dX11_column_15 : decode cX11_column 15 = .ok (.iconst (-1), 1) := by decide +kernel
theorem dX11_column_16 : decode cX11_column 16 = .ok (.ireturn, 1) := by decide +kernel
theorem dX11_column_17 : decode cX11_column 17 = .ok (.iload_n 2, 1) := by decide +kernel
theorem dX11_column_18 : decode cX11_column 18 = .ok (.iconst 1, 1) := by decide +kernel
theorem dX11_column_19 : decode cX11_column 19 = .ok (.if_icmp .lt 18, 3) := by decide +kernel
theorem dX11_column_22 : decode cX11_column 22 = .ok (.iload_n 3, 1) := by decide +kernel
theorem dX11_column_23 : decode cX11_column 23 = .ok (.invokestatic 124, 3) := by decide +kernel
theorem dX11_column_26 : decode cX11_column 26 = .ok (.ifCond .eq 11, 3) := by decide +kernel
theorem dX11_column_29 : decode cX11_column 29 = .ok (.iload 4, 2) := by decide +kernel
theorem dX11_column_31 : decode cX11_column 31 = .ok (.invokestatic 128, 3) := by decide +kernel
theorem dX11_column_34 : decode cX11_column 34 = .ok (.ifCond .ne 6, 3) := by decide +kernel
theorem dX11_column_37 : decode cX11_column 37 = .ok (.bipush (-2), 2) := by decide +kernel
theorem dX11_column_39 : decode cX11_column 39 = .ok (.ireturn, 1) := by decide +kernel
theorem dX11_column_40 : decode cX11_column 40 = .ok (.aload_n 0, 1) := by decide +kernel
theorem dX11_column_41 : decode cX11_column 41 = .ok (.aload 9, 2) := by decide +kernel
theorem dX11_column_43 : decode cX11_column 43 = .ok (.iload_n 2, 1) := by decide +kernel
theorem dX11_column_44 : decode cX11_column 44 = .ok (.invokevirtual 167, 3) := by decide +kernel
theorem dX11_column_47 : decode cX11_column 47 = .ok (.istore 10, 2) := by decide +kernel
theorem dX11_column_49 : decode cX11_column 49 = .ok (.iload 10, 2) := by decide +kernel
theorem dX11_column_51 : decode cX11_column 51 = .ok (.ifCond .eq 6, 3) := by decide +kernel
theorem dX11_column_54 : decode cX11_column 54 = .ok (.iload 10, 2) := by decide +kernel
theorem dX11_column_56 : decode cX11_column 56 = .ok (.ireturn, 1) := by decide +kernel
theorem dX11_column_57 : decode cX11_column 57 = .ok (.aload_n 0, 1) := by decide +kernel
theorem dX11_column_58 : decode cX11_column 58 = .ok (.aload 9, 2) := by decide +kernel
theorem dX11_column_60 : decode cX11_column 60 = .ok (.aload_n 0, 1) := by decide +kernel
theorem dX11_column_61 : decode cX11_column 61 = .ok (.aload 9, 2) := by decide +kernel
theorem dX11_column_63 : decode cX11_column 63 = .ok (.iload_n 2, 1) := by decide +kernel
theorem dX11_column_64 : decode cX11_column 64 = .ok (.invokevirtual 171, 3) := by decide +kernel
theorem dX11_column_67 : decode cX11_column 67 = .ok (.iload_n 3, 1) := by decide +kernel
theorem dX11_column_68 : decode cX11_column 68 = .ok (.iload 4, 2) := by decide +kernel
theorem dX11_column_70 : decode cX11_column 70 = .ok (.lload 5, 2) := by decide +kernel
theorem dX11_column_72 : decode cX11_column 72 = .ok (.lload 7, 2) := by decide +kernel
theorem dX11_column_74 : decode cX11_column 74 = .ok (.invokevirtual 175, 3) := by decide +kernel
theorem dX11_column_77 : decode cX11_column 77 = .ok (.ireturn, 1) := by decide +kernel
theorem dX11_status_0 : decode cX11_status 0 = .ok (.aload_n 0, 1) := by decide +kernel
theorem dX11_status_1 : decode cX11_status 1 = .ok (.getfield 24, 3) := by decide +kernel
theorem dX11_status_4 : decode cX11_status 4 = .ok (.iload_n 1, 1) := by decide +kernel
theorem dX11_status_5 : decode cX11_status 5 = .ok (.invokevirtual 163, 3) := by decide +kernel
theorem dX11_status_8 : decode cX11_status 8 = .ok (.astore_n 3, 1) := by decide +kernel
theorem dX11_status_9 : decode cX11_status 9 = .ok (.aload_n 3, 1) := by decide +kernel
theorem dX11_status_10 : decode cX11_status 10 = .ok (.ifnonnull 5, 3) := by decide +kernel
theorem dX11_status_13 : decode cX11_status 13 = .ok (.iconst (-1), 1) := by decide +kernel
theorem dX11_status_14 : decode cX11_status 14 = .ok (.ireturn, 1) := by decide +kernel
theorem dX11_status_15 : decode cX11_status 15 = .ok (.iload_n 2, 1) := by decide +kernel
theorem dX11_status_16 : decode cX11_status 16 = .ok (.iconst 1, 1) := by decide +kernel
theorem dX11_status_17 : decode cX11_status 17 = .ok (.if_icmp .ge 6, 3) := by decide +kernel
theorem dX11_status_20 : decode cX11_status 20 = .ok (.bipush (-2), 2) := by decide +kernel
theorem dX11_status_22 : decode cX11_status 22 = .ok (.ireturn, 1) := by decide +kernel
theorem dX11_status_23 : decode cX11_status 23 = .ok (.aload_n 3, 1) := by decide +kernel
theorem dX11_status_24 : decode cX11_status 24 = .ok (.getfield 179, 3) := by decide +kernel
theorem dX11_status_27 : decode cX11_status 27 = .ok (.ifnull 6, 3) := by decide +kernel
theorem dX11_status_30 : decode cX11_status 30 = .ok (.bipush (-3), 2) := by decide +kernel
theorem dX11_status_32 : decode cX11_status 32 = .ok (.ireturn, 1) := by decide +kernel
theorem dX11_status_33 : decode cX11_status 33 = .ok (.aload_n 0, 1) := by decide +kernel
theorem dX11_status_34 : decode cX11_status 34 = .ok (.aload_n 3, 1) := by decide +kernel
theorem dX11_status_35 : decode cX11_status 35 = .ok (.iload_n 2, 1) := by decide +kernel
theorem dX11_status_36 : decode cX11_status 36 = .ok (.invokevirtual 167, 3) := by decide +kernel
theorem dX11_status_39 : decode cX11_status 39 = .ok (.istore 4, 2) := by decide +kernel
theorem dX11_status_41 : decode cX11_status 41 = .ok (.iload 4, 2) := by decide +kernel
theorem dX11_status_43 : decode cX11_status 43 = .ok (.ifCond .eq 6, 3) := by decide +kernel
theorem dX11_status_46 : decode cX11_status 46 = .ok (.iload 4, 2) := by decide +kernel
theorem dX11_status_48 : decode cX11_status 48 = .ok (.ireturn, 1) := by decide +kernel
theorem dX11_status_49 : decode cX11_status 49 = .ok (.aload_n 0, 1) := by decide +kernel
theorem dX11_status_50 : decode cX11_status 50 = .ok (.aload_n 3, 1) := by decide +kernel
theorem dX11_status_51 : decode cX11_status 51 = .ok (.aload_n 0, 1) := by decide +kernel
theorem dX11_status_52 : decode cX11_status 52 = .ok (.aload_n 3, 1) := by decide +kernel
theorem dX11_status_53 : decode cX11_status 53 = .ok (.iload_n 2, 1) := by decide +kernel
theorem dX11_status_54 : decode cX11_status 54 = .ok (.invokevirtual 171, 3) := by decide +kernel
theorem dX11_status_57 : decode cX11_status 57 = .ok (.iconst 2, 1) := by decide +kernel
theorem dX11_status_58 : decode cX11_status 58 = .ok (.iconst 2, 1) := by decide +kernel
theorem dX11_status_59 : decode cX11_status 59 = .ok (.lconst 1, 1) := by decide +kernel
theorem dX11_status_60 : decode cX11_status 60 = .ok (.ldc2_w 183, 3) := by decide +kernel
theorem dX11_status_63 : decode cX11_status 63 = .ok (.invokevirtual 175, 3) := by decide +kernel
theorem dX11_status_66 : decode cX11_status 66 = .ok (.istore 5, 2) := by decide +kernel
theorem dX11_status_68 : decode cX11_status 68 = .ok (.aload_n 3, 1) := by decide +kernel
theorem dX11_status_69 : decode cX11_status 69 = .ok (.aload_n 0, 1) := by decide +kernel
theorem dX11_status_70 : decode cX11_status 70 = .ok (.getfield 24, 3) := by decide +kernel
theorem dX11_status_73 : decode cX11_status 73 = .ok (.iload 5, 2) := by decide +kernel
theorem dX11_status_75 : decode cX11_status 75 = .ok (.invokevirtual 185, 3) := by decide +kernel
theorem dX11_status_78 : decode cX11_status 78 = .ok (.putfield 179, 3) := by decide +kernel
theorem dX11_status_81 : decode cX11_status 81 = .ok (.iload 5, 2) := by decide +kernel
theorem dX11_status_83 : decode cX11_status 83 = .ok (.ireturn, 1) := by decide +kernel
theorem dX11_columnRefusal_0 : decode cX11_columnRefusal 0 = .ok (.aload_n 1, 1) := by decide +kernel
theorem dX11_columnRefusal_1 : decode cX11_columnRefusal 1 = .ok (.iload_n 2, 1) := by decide +kernel
theorem dX11_columnRefusal_2 : decode cX11_columnRefusal 2 = .ok (.invokevirtual 189, 3) := by decide +kernel
theorem dX11_columnRefusal_5 : decode cX11_columnRefusal 5 = .ok (.ifCond .ne 10, 3) := by decide +kernel
theorem dX11_columnRefusal_8 : decode cX11_columnRefusal 8 = .ok (.aload_n 1, 1) := by decide +kernel
theorem dX11_columnRefusal_9 : decode cX11_columnRefusal 9 = .ok (.invokevirtual 192, 3) := by decide +kernel
theorem dX11_columnRefusal_12 : decode cX11_columnRefusal 12 = .ok (.ifCond .le 6, 3) := by decide +kernel
theorem dX11_columnRefusal_15 : decode cX11_columnRefusal 15 = .ok (.bipush (-3), 2) := by decide +kernel
theorem dX11_columnRefusal_17 : decode cX11_columnRefusal 17 = .ok (.ireturn, 1) := by decide +kernel
theorem dX11_columnRefusal_18 : decode cX11_columnRefusal 18 = .ok (.aload_n 1, 1) := by decide +kernel
theorem dX11_columnRefusal_19 : decode cX11_columnRefusal 19 = .ok (.invokevirtual 195, 3) := by decide +kernel
theorem dX11_columnRefusal_22 : decode cX11_columnRefusal 22 = .ok (.bipush 6, 2) := by decide +kernel
theorem dX11_columnRefusal_24 : decode cX11_columnRefusal 24 = .ok (.if_icmp .ge 15, 3) := by decide +kernel
theorem dX11_columnRefusal_27 : decode cX11_columnRefusal 27 = .ok (.aload_n 0, 1) := by decide +kernel
theorem dX11_columnRefusal_28 : decode cX11_columnRefusal 28 = .ok (.getfield 24, 3) := by decide +kernel
theorem dX11_columnRefusal_31 : decode cX11_columnRefusal 31 = .ok (.invokevirtual 138, 3) := by decide +kernel
theorem dX11_columnRefusal_34 : decode cX11_columnRefusal 34 = .ok (.bipush 40, 2) := by decide +kernel
theorem dX11_columnRefusal_36 : decode cX11_columnRefusal 36 = .ok (.if_icmp .lt 7, 3) := by decide +kernel
theorem dX11_columnRefusal_39 : decode cX11_columnRefusal 39 = .ok (.iconst 1, 1) := by decide +kernel
theorem dX11_columnRefusal_40 : decode cX11_columnRefusal 40 = .ok (.goto 4, 3) := by decide +kernel
theorem dX11_columnRefusal_43 : decode cX11_columnRefusal 43 = .ok (.iconst 0, 1) := by decide +kernel
theorem dX11_columnRefusal_44 : decode cX11_columnRefusal 44 = .ok (.istore_n 3, 1) := by decide +kernel
theorem dX11_columnRefusal_45 : decode cX11_columnRefusal 45 = .ok (.iload_n 3, 1) := by decide +kernel
theorem dX11_columnRefusal_46 : decode cX11_columnRefusal 46 = .ok (.ifCond .eq 8, 3) := by decide +kernel
theorem dX11_columnRefusal_49 : decode cX11_columnRefusal 49 = .ok (.bipush (-4), 2) := by decide +kernel
theorem dX11_columnRefusal_51 : decode cX11_columnRefusal 51 = .ok (.goto 4, 3) := by decide +kernel
theorem dX11_columnRefusal_54 : decode cX11_columnRefusal 54 = .ok (.iconst 0, 1) := by decide +kernel
theorem dX11_columnRefusal_55 : decode cX11_columnRefusal 55 = .ok (.ireturn, 1) := by decide +kernel
theorem dX11_columnName_0 : decode cX11_columnName 0 = .ok (.aload_n 0, 1) := by decide +kernel
theorem dX11_columnName_1 : decode cX11_columnName 1 = .ok (.getfield 70, 3) := by decide +kernel
theorem dX11_columnName_4 : decode cX11_columnName 4 = .ok (.aload_n 1, 1) := by decide +kernel
theorem dX11_columnName_5 : decode cX11_columnName 5 = .ok (.getfield 198, 3) := by decide +kernel
theorem dX11_columnName_8 : decode cX11_columnName 8 = .ok (.invokevirtual 201, 3) := by decide +kernel
theorem dX11_columnName_11 : decode cX11_columnName 11 = .ok (.aload_n 0, 1) := by decide +kernel
theorem dX11_columnName_12 : decode cX11_columnName 12 = .ok (.getfield 70, 3) := by decide +kernel
theorem dX11_columnName_15 : decode cX11_columnName 15 = .ok (.iload_n 2, 1) := by decide +kernel
theorem dX11_columnName_16 : decode cX11_columnName 16 = .ok (.i2l, 1) := by decide +kernel
theorem dX11_columnName_17 : decode cX11_columnName 17 = .ok (.invokevirtual 104, 3) := by decide +kernel
theorem dX11_columnName_20 : decode cX11_columnName 20 = .ok (.pop, 1) := by decide +kernel
theorem dX11_columnName_21 : decode cX11_columnName 21 = .ok (.aload_n 0, 1) := by decide +kernel
theorem dX11_columnName_22 : decode cX11_columnName 22 = .ok (.getfield 70, 3) := by decide +kernel
theorem dX11_columnName_25 : decode cX11_columnName 25 = .ok (.areturn, 1) := by decide +kernel
theorem dX11_newColumn_0 : decode cX11_newColumn 0 = .ok (.new 141, 3) := by decide +kernel
theorem dX11_newColumn_3 : decode cX11_newColumn 3 = .ok (.dup, 1) := by decide +kernel
theorem dX11_newColumn_4 : decode cX11_newColumn 4 = .ok (.aload_n 2, 1) := by decide +kernel
theorem dX11_newColumn_5 : decode cX11_newColumn 5 = .ok (.iload_n 3, 1) := by decide +kernel
theorem dX11_newColumn_6 : decode cX11_newColumn 6 = .ok (.iload 4, 2) := by decide +kernel
theorem dX11_newColumn_8 : decode cX11_newColumn 8 = .ok (.lload 5, 2) := by decide +kernel
theorem dX11_newColumn_10 : decode cX11_newColumn 10 = .ok (.lload 7, 2) := by decide +kernel
theorem dX11_newColumn_12 : decode cX11_newColumn 12 = .ok (.aload_n 1, 1) := by decide +kernel
theorem dX11_newColumn_13 : decode cX11_newColumn 13 = .ok (.invokespecial 143, 3) := by decide +kernel
theorem dX11_newColumn_16 : decode cX11_newColumn 16 = .ok (.astore 9, 2) := by decide +kernel
theorem dX11_newColumn_18 : decode cX11_newColumn 18 = .ok (.aload_n 1, 1) := by decide +kernel
theorem dX11_newColumn_19 : decode cX11_newColumn 19 = .ok (.aload 9, 2) := by decide +kernel
theorem dX11_newColumn_21 : decode cX11_newColumn 21 = .ok (.invokevirtual 204, 3) := by decide +kernel
theorem dX11_newColumn_24 : decode cX11_newColumn 24 = .ok (.aload_n 0, 1) := by decide +kernel
theorem dX11_newColumn_25 : decode cX11_newColumn 25 = .ok (.getfield 24, 3) := by decide +kernel
theorem dX11_newColumn_28 : decode cX11_newColumn 28 = .ok (.aload 9, 2) := by decide +kernel
theorem dX11_newColumn_30 : decode cX11_newColumn 30 = .ok (.invokevirtual 146, 3) := by decide +kernel
theorem dX11_newColumn_33 : decode cX11_newColumn 33 = .ok (.ireturn, 1) := by decide +kernel
theorem dX11_row_0 : decode cX11_row 0 = .ok (.aload_n 0, 1) := by decide +kernel
theorem dX11_row_1 : decode cX11_row 1 = .ok (.getfield 24, 3) := by decide +kernel
theorem dX11_row_4 : decode cX11_row 4 = .ok (.iload_n 1, 1) := by decide +kernel
theorem dX11_row_5 : decode cX11_row 5 = .ok (.invokevirtual 163, 3) := by decide +kernel
theorem dX11_row_8 : decode cX11_row 8 = .ok (.astore 4, 2) := by decide +kernel
theorem dX11_row_10 : decode cX11_row 10 = .ok (.aload 4, 2) := by decide +kernel
theorem dX11_row_12 : decode cX11_row 12 = .ok (.ifnonnull 5, 3) := by decide +kernel
theorem dX11_row_15 : decode cX11_row 15 = .ok (.iconst (-1), 1) := by decide +kernel
theorem dX11_row_16 : decode cX11_row 16 = .ok (.ireturn, 1) := by decide +kernel
theorem dX11_row_17 : decode cX11_row 17 = .ok (.iload_n 2, 1) := by decide +kernel
theorem dX11_row_18 : decode cX11_row 18 = .ok (.iconst 1, 1) := by decide +kernel
theorem dX11_row_19 : decode cX11_row 19 = .ok (.if_icmp .ge 6, 3) := by decide +kernel
theorem dX11_row_22 : decode cX11_row 22 = .ok (.bipush (-2), 2) := by decide +kernel
theorem dX11_row_24 : decode cX11_row 24 = .ok (.ireturn, 1) := by decide +kernel
theorem dX11_row_25 : decode cX11_row 25 = .ok (.aload 4, 2) := by decide +kernel
theorem dX11_row_27 : decode cX11_row 27 = .ok (.iload_n 2, 1) := by decide +kernel
theorem dX11_row_28 : decode cX11_row 28 = .ok (.i2l, 1) := by decide +kernel
theorem dX11_row_29 : decode cX11_row 29 = .ok (.invokevirtual 208, 3) := by decide +kernel
theorem dX11_row_32 : decode cX11_row 32 = .ok (.ifCond .lt 7, 3) := by decide +kernel
theorem dX11_row_35 : decode cX11_row 35 = .ok (.iconst 1, 1) := by decide +kernel
theorem dX11_row_36 : decode cX11_row 36 = .ok (.goto 4, 3) := by decide +kernel
theorem dX11_row_39 : decode cX11_row 39 = .ok (.iconst 0, 1) := by decide +kernel
theorem dX11_row_40 : decode cX11_row 40 = .ok (.iload_n 3, 1) := by decide +kernel
theorem dX11_row_41 : decode cX11_row 41 = .ok (.if_icmp .ne 5, 3) := by decide +kernel
theorem dX11_row_44 : decode cX11_row 44 = .ok (.iconst 0, 1) := by decide +kernel
theorem dX11_row_45 : decode cX11_row 45 = .ok (.ireturn, 1) := by decide +kernel
theorem dX11_row_46 : decode cX11_row 46 = .ok (.iload_n 3, 1) := by decide +kernel
theorem dX11_row_47 : decode cX11_row 47 = .ok (.ifCond .ne 12, 3) := by decide +kernel
theorem dX11_row_50 : decode cX11_row 50 = .ok (.aload 4, 2) := by decide +kernel
theorem dX11_row_52 : decode cX11_row 52 = .ok (.iload_n 2, 1) := by decide +kernel
theorem dX11_row_53 : decode cX11_row 53 = .ok (.i2l, 1) := by decide +kernel
theorem dX11_row_54 : decode cX11_row 54 = .ok (.invokevirtual 212, 3) := by decide +kernel
theorem dX11_row_57 : decode cX11_row 57 = .ok (.iconst 1, 1) := by decide +kernel
theorem dX11_row_58 : decode cX11_row 58 = .ok (.ireturn, 1) := by decide +kernel
theorem dX11_row_59 : decode cX11_row 59 = .ok (.aload 4, 2) := by decide +kernel
theorem dX11_row_61 : decode cX11_row 61 = .ok (.iload_n 2, 1) := by decide +kernel
theorem dX11_row_62 : decode cX11_row 62 = .ok (.iconst 1, 1) := by decide +kernel
theorem dX11_row_63 : decode cX11_row 63 = .ok (.invokevirtual 216, 3) := by decide +kernel
theorem dX11_row_66 : decode cX11_row 66 = .ok (.ifCond .eq 7, 3) := by decide +kernel
theorem dX11_row_69 : decode cX11_row 69 = .ok (.iconst 1, 1) := by decide +kernel
theorem dX11_row_70 : decode cX11_row 70 = .ok (.goto 5, 3) := by decide +kernel
theorem dX11_row_73 : decode cX11_row 73 = .ok (.bipush (-4), 2) := by decide +kernel
theorem dX11_row_75 : decode cX11_row 75 = .ok (.ireturn, 1) := by decide +kernel
theorem dX11_value_0 : decode cX11_value 0 = .ok (.aload_n 0, 1) := by decide +kernel
theorem dX11_value_1 : decode cX11_value 1 = .ok (.getfield 24, 3) := by decide +kernel
theorem dX11_value_4 : decode cX11_value 4 = .ok (.iload_n 1, 1) := by decide +kernel
theorem dX11_value_5 : decode cX11_value 5 = .ok (.invokevirtual 185, 3) := by decide +kernel
theorem dX11_value_8 : decode cX11_value 8 = .ok (.astore 5, 2) := by decide +kernel
theorem dX11_value_10 : decode cX11_value 10 = .ok (.aload 5, 2) := by decide +kernel
theorem dX11_value_12 : decode cX11_value 12 = .ok (.ifnull 11, 3) := by decide +kernel
theorem dX11_value_15 : decode cX11_value 15 = .ok (.aload 5, 2) := by decide +kernel
theorem dX11_value_17 : decode cX11_value 17 = .ok (.invokevirtual 220, 3) := by decide +kernel
theorem dX11_value_20 : decode cX11_value 20 = .ok (.ifCond .eq 5, 3) := by decide +kernel
theorem dX11_value_23 : decode cX11_value 23 = .ok (.iconst (-1), 1) := by decide +kernel
theorem dX11_value_24 : decode cX11_value 24 = .ok (.ireturn, 1) := by decide +kernel
theorem dX11_value_25 : decode cX11_value 25 = .ok (.aload 5, 2) := by decide +kernel
theorem dX11_value_27 : decode cX11_value 27 = .ok (.iload_n 2, 1) := by decide +kernel
theorem dX11_value_28 : decode cX11_value 28 = .ok (.i2l, 1) := by decide +kernel
theorem dX11_value_29 : decode cX11_value 29 = .ok (.invokevirtual 224, 3) := by decide +kernel
theorem dX11_value_32 : decode cX11_value 32 = .ok (.astore 6, 2) := by decide +kernel
theorem dX11_value_34 : decode cX11_value 34 = .ok (.aload 6, 2) := by decide +kernel
theorem dX11_value_36 : decode cX11_value 36 = .ok (.ifnull 11, 3) := by decide +kernel
theorem dX11_value_39 : decode cX11_value 39 = .ok (.aload 6, 2) := by decide +kernel
theorem dX11_value_41 : decode cX11_value 41 = .ok (.invokevirtual 228, 3) := by decide +kernel
theorem dX11_value_44 : decode cX11_value 44 = .ok (.ifCond .eq 5, 3) := by decide +kernel
theorem dX11_value_47 : decode cX11_value 47 = .ok (.iconst (-1), 1) := by decide +kernel
theorem dX11_value_48 : decode cX11_value 48 = .ok (.ireturn, 1) := by decide +kernel
theorem dX11_value_49 : decode cX11_value 49 = .ok (.aload 6, 2) := by decide +kernel
theorem dX11_value_51 : decode cX11_value 51 = .ok (.getfield 231, 3) := by decide +kernel
theorem dX11_value_54 : decode cX11_value 54 = .ok (.lload_n 3, 1) := by decide +kernel
theorem dX11_value_55 : decode cX11_value 55 = .ok (.invokestatic 234, 3) := by decide +kernel
theorem dX11_value_58 : decode cX11_value 58 = .ok (.ifCond .ne 6, 3) := by decide +kernel
theorem dX11_value_61 : decode cX11_value 61 = .ok (.bipush (-2), 2) := by decide +kernel
theorem dX11_value_63 : decode cX11_value 63 = .ok (.ireturn, 1) := by decide +kernel
theorem dX11_value_64 : decode cX11_value 64 = .ok (.aload 6, 2) := by decide +kernel
theorem dX11_value_66 : decode cX11_value 66 = .ok (.aload 6, 2) := by decide +kernel
theorem dX11_value_68 : decode cX11_value 68 = .ok (.getfield 231, 3) := by decide +kernel
theorem dX11_value_71 : decode cX11_value 71 = .ok (.bipush 64, 2) := by decide +kernel
theorem dX11_value_73 : decode cX11_value 73 = .ok (.if_icmp .ne 11, 3) := by decide +kernel
theorem dX11_value_76 : decode cX11_value 76 = .ok (.lload_n 3, 1) := by decide +kernel
theorem dX11_value_77 : decode cX11_value 77 = .ok (.ldc2_w 118, 3) := by decide +kernel
theorem dX11_value_80 : decode cX11_value 80 = .ok (.land, 1) := by decide +kernel
theorem dX11_value_81 : decode cX11_value 81 = .ok (.goto 4, 3) := by decide +kernel
theorem dX11_value_84 : decode cX11_value 84 = .ok (.lload_n 3, 1) := by decide +kernel
theorem dX11_value_85 : decode cX11_value 85 = .ok (.putfield 238, 3) := by decide +kernel
theorem dX11_value_88 : decode cX11_value 88 = .ok (.iconst 1, 1) := by decide +kernel
theorem dX11_value_89 : decode cX11_value 89 = .ok (.ireturn, 1) := by decide +kernel
theorem dX11_isNumberOf_0 : decode cX11_isNumberOf 0 = .ok (.iload_n 0, 1) := by decide +kernel
theorem dX11_isNumberOf_1 : decode cX11_isNumberOf 1 = .ok (.lookupswitch 85 #[(2, 43), (65, 65), (66, 65), (67, 65)], 43) := by decide +kernel
theorem dX11_isNumberOf_44 : decode cX11_isNumberOf 44 = .ok (.lload_n 1, 1) := by decide +kernel
theorem dX11_isNumberOf_45 : decode cX11_isNumberOf 45 = .ok (.ldc2_w 242, 3) := by decide +kernel
theorem dX11_isNumberOf_48 : decode cX11_isNumberOf 48 = .ok (.lcmp, 1) := by decide +kernel
theorem dX11_isNumberOf_49 : decode cX11_isNumberOf 49 = .ok (.ifCond .lt 15, 3) := by decide +kernel
theorem dX11_isNumberOf_52 : decode cX11_isNumberOf 52 = .ok (.lload_n 1, 1) := by decide +kernel
theorem dX11_isNumberOf_53 : decode cX11_isNumberOf 53 = .ok (.ldc2_w 244, 3) := by decide +kernel
theorem dX11_isNumberOf_56 : decode cX11_isNumberOf 56 = .ok (.lcmp, 1) := by decide +kernel
theorem dX11_isNumberOf_57 : decode cX11_isNumberOf 57 = .ok (.ifCond .gt 7, 3) := by decide +kernel
theorem dX11_isNumberOf_60 : decode cX11_isNumberOf 60 = .ok (.iconst 1, 1) := by decide +kernel
theorem dX11_isNumberOf_61 : decode cX11_isNumberOf 61 = .ok (.goto 4, 3) := by decide +kernel
theorem dX11_isNumberOf_64 : decode cX11_isNumberOf 64 = .ok (.iconst 0, 1) := by decide +kernel
theorem dX11_isNumberOf_65 : decode cX11_isNumberOf 65 = .ok (.ireturn, 1) := by decide +kernel
theorem dX11_isNumberOf_66 : decode cX11_isNumberOf 66 = .ok (.lload_n 1, 1) := by decide +kernel
theorem dX11_isNumberOf_67 : decode cX11_isNumberOf 67 = .ok (.lconst 0, 1) := by decide +kernel
theorem dX11_isNumberOf_68 : decode cX11_isNumberOf 68 = .ok (.lcmp, 1) := by decide +kernel
theorem dX11_isNumberOf_69 : decode cX11_isNumberOf 69 = .ok (.ifCond .lt 15, 3) := by decide +kernel
theorem dX11_isNumberOf_72 : decode cX11_isNumberOf 72 = .ok (.lload_n 1, 1) := by decide +kernel
theorem dX11_isNumberOf_73 : decode cX11_isNumberOf 73 = .ok (.ldc2_w 118, 3) := by decide +kernel
theorem dX11_isNumberOf_76 : decode cX11_isNumberOf 76 = .ok (.lcmp, 1) := by decide +kernel
theorem dX11_isNumberOf_77 : decode cX11_isNumberOf 77 = .ok (.ifCond .gt 7, 3) := by decide +kernel
theorem dX11_isNumberOf_80 : decode cX11_isNumberOf 80 = .ok (.iconst 1, 1) := by decide +kernel
theorem dX11_isNumberOf_81 : decode cX11_isNumberOf 81 = .ok (.goto 4, 3) := by decide +kernel
theorem dX11_isNumberOf_84 : decode cX11_isNumberOf 84 = .ok (.iconst 0, 1) := by decide +kernel
theorem dX11_isNumberOf_85 : decode cX11_isNumberOf 85 = .ok (.ireturn, 1) := by decide +kernel
theorem dX11_isNumberOf_86 : decode cX11_isNumberOf 86 = .ok (.iconst 1, 1) := by decide +kernel
theorem dX11_isNumberOf_87 : decode cX11_isNumberOf 87 = .ok (.ireturn, 1) := by decide +kernel
theorem dX11_text_0 : decode cX11_text 0 = .ok (.aload_n 0, 1) := by decide +kernel
theorem dX11_text_1 : decode cX11_text 1 = .ok (.iload_n 1, 1) := by decide +kernel
theorem dX11_text_2 : decode cX11_text 2 = .ok (.iload_n 2, 1) := by decide +kernel
theorem dX11_text_3 : decode cX11_text 3 = .ok (.invokevirtual 246, 3) := by decide +kernel
theorem dX11_text_6 : decode cX11_text 6 = .ok (.istore_n 3, 1) := by decide +kernel
theorem dX11_text_7 : decode cX11_text 7 = .ok (.aload_n 0, 1) := by decide +kernel
theorem dX11_text_8 : decode cX11_text 8 = .ok (.getfield 14, 3) := by decide +kernel
theorem dX11_text_11 : decode cX11_text 11 = .ok (.invokevirtual 95, 3) := by decide +kernel
theorem dX11_text_14 : decode cX11_text 14 = .ok (.iload_n 3, 1) := by decide +kernel
theorem dX11_text_15 : decode cX11_text 15 = .ok (.ireturn, 1) := by decide +kernel
theorem dX11_becomeText_0 : decode cX11_becomeText 0 = .ok (.aload_n 0, 1) := by decide +kernel
theorem dX11_becomeText_1 : decode cX11_becomeText 1 = .ok (.iload_n 1, 1) := by decide +kernel
theorem dX11_becomeText_2 : decode cX11_becomeText 2 = .ok (.iload_n 2, 1) := by decide +kernel
theorem dX11_becomeText_3 : decode cX11_becomeText 3 = .ok (.iconst 4, 1) := by decide +kernel
theorem dX11_becomeText_4 : decode cX11_becomeText 4 = .ok (.invokevirtual 250, 3) := by decide +kernel
theorem dX11_becomeText_7 : decode cX11_becomeText 7 = .ok (.astore_n 3, 1) := by decide +kernel
theorem dX11_becomeText_8 : decode cX11_becomeText 8 = .ok (.aload_n 3, 1) := by decide +kernel
theorem dX11_becomeText_9 : decode cX11_becomeText 9 = .ok (.ifnonnull 5, 3) := by decide +kernel
theorem dX11_becomeText_12 : decode cX11_becomeText 12 = .ok (.iconst (-1), 1) := by decide +kernel
theorem dX11_becomeText_13 : decode cX11_becomeText 13 = .ok (.ireturn, 1) := by decide +kernel
theorem dX11_becomeText_14 : decode cX11_becomeText 14 = .ok (.aload_n 0, 1) := by decide +kernel
theorem dX11_becomeText_15 : decode cX11_becomeText 15 = .ok (.getfield 14, 3) := by decide +kernel
theorem dX11_becomeText_18 : decode cX11_becomeText 18 = .ok (.invokevirtual 98, 3) := by decide +kernel
theorem dX11_becomeText_21 : decode cX11_becomeText 21 = .ok (.bipush 40, 2) := by decide +kernel
theorem dX11_becomeText_23 : decode cX11_becomeText 23 = .ok (.if_icmp .le 6, 3) := by decide +kernel
theorem dX11_becomeText_26 : decode cX11_becomeText 26 = .ok (.bipush (-2), 2) := by decide +kernel
theorem dX11_becomeText_28 : decode cX11_becomeText 28 = .ok (.ireturn, 1) := by decide +kernel
theorem dX11_becomeText_29 : decode cX11_becomeText 29 = .ok (.aload_n 3, 1) := by decide +kernel
theorem dX11_becomeText_30 : decode cX11_becomeText 30 = .ok (.getfield 254, 3) := by decide +kernel
theorem dX11_becomeText_33 : decode cX11_becomeText 33 = .ok (.aload_n 0, 1) := by decide +kernel
theorem dX11_becomeText_34 : decode cX11_becomeText 34 = .ok (.getfield 14, 3) := by decide +kernel
theorem dX11_becomeText_37 : decode cX11_becomeText 37 = .ok (.invokevirtual 201, 3) := by decide +kernel
theorem dX11_becomeText_40 : decode cX11_becomeText 40 = .ok (.aload_n 0, 1) := by decide +kernel
theorem dX11_becomeText_41 : decode cX11_becomeText 41 = .ok (.getfield 14, 3) := by decide +kernel
theorem dX11_becomeText_44 : decode cX11_becomeText 44 = .ok (.invokevirtual 98, 3) := by decide +kernel
theorem dX11_becomeText_47 : decode cX11_becomeText 47 = .ok (.ireturn, 1) := by decide +kernel
theorem dX11_identity_0 : decode cX11_identity 0 = .ok (.aload_n 0, 1) := by decide +kernel
theorem dX11_identity_1 : decode cX11_identity 1 = .ok (.iload_n 1, 1) := by decide +kernel
theorem dX11_identity_2 : decode cX11_identity 2 = .ok (.iload_n 2, 1) := by decide +kernel
theorem dX11_identity_3 : decode cX11_identity 3 = .ok (.invokevirtual 257, 3) := by decide +kernel
theorem dX11_identity_6 : decode cX11_identity 6 = .ok (.istore_n 3, 1) := by decide +kernel
theorem dX11_identity_7 : decode cX11_identity 7 = .ok (.aload_n 0, 1) := by decide +kernel
theorem dX11_identity_8 : decode cX11_identity 8 = .ok (.getfield 18, 3) := by decide +kernel
theorem dX11_identity_11 : decode cX11_identity 11 = .ok (.invokevirtual 95, 3) := by decide +kernel
theorem dX11_identity_14 : decode cX11_identity 14 = .ok (.iload_n 3, 1) := by decide +kernel
theorem dX11_identity_15 : decode cX11_identity 15 = .ok (.ireturn, 1) := by decide +kernel
theorem dX11_becomeName_0 : decode cX11_becomeName 0 = .ok (.aload_n 0, 1) := by decide +kernel
theorem dX11_becomeName_1 : decode cX11_becomeName 1 = .ok (.iload_n 1, 1) := by decide +kernel
theorem dX11_becomeName_2 : decode cX11_becomeName 2 = .ok (.iload_n 2, 1) := by decide +kernel
theorem dX11_becomeName_3 : decode cX11_becomeName 3 = .ok (.bipush 6, 2) := by decide +kernel
theorem dX11_becomeName_5 : decode cX11_becomeName 5 = .ok (.invokevirtual 250, 3) := by decide +kernel
theorem dX11_becomeName_8 : decode cX11_becomeName 8 = .ok (.astore_n 3, 1) := by decide +kernel
theorem dX11_becomeName_9 : decode cX11_becomeName 9 = .ok (.aload_n 3, 1) := by decide +kernel
theorem dX11_becomeName_10 : decode cX11_becomeName 10 = .ok (.ifnonnull 5, 3) := by decide +kernel
theorem dX11_becomeName_13 : decode cX11_becomeName 13 = .ok (.iconst (-1), 1) := by decide +kernel
theorem dX11_becomeName_14 : decode cX11_becomeName 14 = .ok (.ireturn, 1) := by decide +kernel
theorem dX11_becomeName_15 : decode cX11_becomeName 15 = .ok (.aload_n 0, 1) := by decide +kernel
theorem dX11_becomeName_16 : decode cX11_becomeName 16 = .ok (.bipush 16, 2) := by decide +kernel
theorem dX11_becomeName_18 : decode cX11_becomeName 18 = .ok (.invokevirtual 131, 3) := by decide +kernel
theorem dX11_becomeName_21 : decode cX11_becomeName 21 = .ok (.ifCond .ne 6, 3) := by decide +kernel
theorem dX11_becomeName_24 : decode cX11_becomeName 24 = .ok (.bipush (-2), 2) := by decide +kernel
theorem dX11_becomeName_26 : decode cX11_becomeName 26 = .ok (.ireturn, 1) := by decide +kernel
theorem dX11_becomeName_27 : decode cX11_becomeName 27 = .ok (.aload_n 3, 1) := by decide +kernel
theorem dX11_becomeName_28 : decode cX11_becomeName 28 = .ok (.getfield 254, 3) := by decide +kernel
theorem dX11_becomeName_31 : decode cX11_becomeName 31 = .ok (.aload_n 0, 1) := by decide +kernel
theorem dX11_becomeName_32 : decode cX11_becomeName 32 = .ok (.getfield 18, 3) := by decide +kernel
theorem dX11_becomeName_35 : decode cX11_becomeName 35 = .ok (.invokevirtual 201, 3) := by decide +kernel
theorem dX11_becomeName_38 : decode cX11_becomeName 38 = .ok (.aload_n 0, 1) := by decide +kernel
theorem dX11_becomeName_39 : decode cX11_becomeName 39 = .ok (.getfield 18, 3) := by decide +kernel
theorem dX11_becomeName_42 : decode cX11_becomeName 42 = .ok (.invokevirtual 98, 3) := by decide +kernel
theorem dX11_becomeName_45 : decode cX11_becomeName 45 = .ok (.ireturn, 1) := by decide +kernel
theorem dX11_cellOfTag_0 : decode cX11_cellOfTag 0 = .ok (.aload_n 0, 1) := by decide +kernel
theorem dX11_cellOfTag_1 : decode cX11_cellOfTag 1 = .ok (.getfield 24, 3) := by decide +kernel
theorem dX11_cellOfTag_4 : decode cX11_cellOfTag 4 = .ok (.iload_n 1, 1) := by decide +kernel
theorem dX11_cellOfTag_5 : decode cX11_cellOfTag 5 = .ok (.invokevirtual 185, 3) := by decide +kernel
theorem dX11_cellOfTag_8 : decode cX11_cellOfTag 8 = .ok (.astore 4, 2) := by decide +kernel
theorem dX11_cellOfTag_10 : decode cX11_cellOfTag 10 = .ok (.aload 4, 2) := by decide +kernel
theorem dX11_cellOfTag_12 : decode cX11_cellOfTag 12 = .ok (.ifnull 12, 3) := by decide +kernel
theorem dX11_cellOfTag_15 : decode cX11_cellOfTag 15 = .ok (.aload 4, 2) := by decide +kernel
theorem dX11_cellOfTag_17 : decode cX11_cellOfTag 17 = .ok (.getfield 260, 3) := by decide +kernel
theorem dX11_cellOfTag_20 : decode cX11_cellOfTag 20 = .ok (.iload_n 3, 1) := by decide +kernel
theorem dX11_cellOfTag_21 : decode cX11_cellOfTag 21 = .ok (.if_icmp .eq 7, 3) := by decide +kernel
theorem dX11_cellOfTag_24 : decode cX11_cellOfTag 24 = .ok (.aconst_null, 1) := by decide +kernel
theorem dX11_cellOfTag_25 : decode cX11_cellOfTag 25 = .ok (.goto 10, 3) := by decide +kernel
theorem dX11_cellOfTag_28 : decode cX11_cellOfTag 28 = .ok (.aload 4, 2) := by decide +kernel
theorem dX11_cellOfTag_30 : decode cX11_cellOfTag 30 = .ok (.iload_n 2, 1) := by decide +kernel
theorem dX11_cellOfTag_31 : decode cX11_cellOfTag 31 = .ok (.i2l, 1) := by decide +kernel
theorem dX11_cellOfTag_32 : decode cX11_cellOfTag 32 = .ok (.invokevirtual 224, 3) := by decide +kernel
theorem dX11_cellOfTag_35 : decode cX11_cellOfTag 35 = .ok (.areturn, 1) := by decide +kernel
theorem dX11_community_0 : decode cX11_community 0 = .ok (.aload_n 0, 1) := by decide +kernel
theorem dX11_community_1 : decode cX11_community 1 = .ok (.iload_n 1, 1) := by decide +kernel
theorem dX11_community_2 : decode cX11_community 2 = .ok (.invokevirtual 261, 3) := by decide +kernel
theorem dX11_community_5 : decode cX11_community 5 = .ok (.istore_n 2, 1) := by decide +kernel
theorem dX11_community_6 : decode cX11_community 6 = .ok (.aload_n 0, 1) := by decide +kernel
theorem dX11_community_7 : decode cX11_community 7 = .ok (.getfield 14, 3) := by decide +kernel
theorem dX11_community_10 : decode cX11_community 10 = .ok (.invokevirtual 95, 3) := by decide +kernel
theorem dX11_community_13 : decode cX11_community 13 = .ok (.iload_n 2, 1) := by decide +kernel
theorem dX11_community_14 : decode cX11_community 14 = .ok (.ireturn, 1) := by decide +kernel
theorem dX11_newCommunity_0 : decode cX11_newCommunity 0 = .ok (.aload_n 0, 1) := by decide +kernel
theorem dX11_newCommunity_1 : decode cX11_newCommunity 1 = .ok (.getfield 14, 3) := by decide +kernel
theorem dX11_newCommunity_4 : decode cX11_newCommunity 4 = .ok (.invokevirtual 98, 3) := by decide +kernel
theorem dX11_newCommunity_7 : decode cX11_newCommunity 7 = .ok (.bipush 40, 2) := by decide +kernel
theorem dX11_newCommunity_9 : decode cX11_newCommunity 9 = .ok (.if_icmp .le 6, 3) := by decide +kernel
theorem dX11_newCommunity_12 : decode cX11_newCommunity 12 = .ok (.bipush (-2), 2) := by decide +kernel
theorem dX11_newCommunity_14 : decode cX11_newCommunity 14 = .ok (.ireturn, 1) := by decide +kernel
theorem dX11_newCommunity_15 : decode cX11_newCommunity 15 = .ok (.aload_n 0, 1) := by decide +kernel
theorem dX11_newCommunity_16 : decode cX11_newCommunity 16 = .ok (.aload_n 0, 1) := by decide +kernel
theorem dX11_newCommunity_17 : decode cX11_newCommunity 17 = .ok (.getfield 14, 3) := by decide +kernel
theorem dX11_newCommunity_20 : decode cX11_newCommunity 20 = .ok (.invokevirtual 265, 3) := by decide +kernel
theorem dX11_newCommunity_23 : decode cX11_newCommunity 23 = .ok (.ifnull 6, 3) := by decide +kernel
theorem dX11_newCommunity_26 : decode cX11_newCommunity 26 = .ok (.bipush (-3), 2) := by decide +kernel
theorem dX11_newCommunity_28 : decode cX11_newCommunity 28 = .ok (.ireturn, 1) := by decide +kernel
theorem dX11_newCommunity_29 : decode cX11_newCommunity 29 = .ok (.aload_n 0, 1) := by decide +kernel
theorem dX11_newCommunity_30 : decode cX11_newCommunity 30 = .ok (.getfield 269, 3) := by decide +kernel
theorem dX11_newCommunity_33 : decode cX11_newCommunity 33 = .ok (.ifCond .lt 15, 3) := by decide +kernel
theorem dX11_newCommunity_36 : decode cX11_newCommunity 36 = .ok (.aload_n 0, 1) := by decide +kernel
theorem dX11_newCommunity_37 : decode cX11_newCommunity 37 = .ok (.getfield 269, 3) := by decide +kernel
theorem dX11_newCommunity_40 : decode cX11_newCommunity 40 = .ok (.aload_n 0, 1) := by decide +kernel
theorem dX11_newCommunity_41 : decode cX11_newCommunity 41 = .ok (.getfield 30, 3) := by decide +kernel
theorem dX11_newCommunity_44 : decode cX11_newCommunity 44 = .ok (.arraylength, 1) := by decide +kernel
theorem dX11_newCommunity_45 : decode cX11_newCommunity 45 = .ok (.if_icmp .lt 6, 3) := by decide +kernel
theorem dX11_newCommunity_48 : decode cX11_newCommunity 48 = .ok (.bipush (-4), 2) := by decide +kernel
theorem dX11_newCommunity_50 : decode cX11_newCommunity 50 = .ok (.ireturn, 1) := by decide +kernel
theorem dX11_newCommunity_51 : decode cX11_newCommunity 51 = .ok (.aload_n 0, 1) := by decide +kernel
theorem dX11_newCommunity_52 : decode cX11_newCommunity 52 = .ok (.getfield 30, 3) := by decide +kernel
theorem dX11_newCommunity_55 : decode cX11_newCommunity 55 = .ok (.aload_n 0, 1) := by decide +kernel
theorem dX11_newCommunity_56 : decode cX11_newCommunity 56 = .ok (.getfield 269, 3) := by decide +kernel
theorem dX11_newCommunity_59 : decode cX11_newCommunity 59 = .ok (.new 28, 3) := by decide +kernel
theorem dX11_newCommunity_62 : decode cX11_newCommunity 62 = .ok (.dup, 1) := by decide +kernel
theorem dX11_newCommunity_63 : decode cX11_newCommunity 63 = .ok (.aload_n 0, 1) := by decide +kernel
theorem dX11_newCommunity_64 : decode cX11_newCommunity 64 = .ok (.getfield 14, 3) := by decide +kernel
theorem dX11_newCommunity_67 : decode cX11_newCommunity 67 = .ok (.iload_n 1, 1) := by decide +kernel
theorem dX11_newCommunity_68 : decode cX11_newCommunity 68 = .ok (.invokespecial 272, 3) := by decide +kernel
theorem dX11_newCommunity_71 : decode cX11_newCommunity 71 = .ok (.aastore, 1) := by decide +kernel
theorem dX11_newCommunity_72 : decode cX11_newCommunity 72 = .ok (.aload_n 0, 1) := by decide +kernel
theorem dX11_newCommunity_73 : decode cX11_newCommunity 73 = .ok (.dup, 1) := by decide +kernel
theorem dX11_newCommunity_74 : decode cX11_newCommunity 74 = .ok (.getfield 269, 3) := by decide +kernel
theorem dX11_newCommunity_77 : decode cX11_newCommunity 77 = .ok (.iconst 1, 1) := by decide +kernel
theorem dX11_newCommunity_78 : decode cX11_newCommunity 78 = .ok (.iadd, 1) := by decide +kernel
theorem dX11_newCommunity_79 : decode cX11_newCommunity 79 = .ok (.putfield 269, 3) := by decide +kernel
theorem dX11_newCommunity_82 : decode cX11_newCommunity 82 = .ok (.aload_n 0, 1) := by decide +kernel
theorem dX11_newCommunity_83 : decode cX11_newCommunity 83 = .ok (.getfield 269, 3) := by decide +kernel
theorem dX11_newCommunity_86 : decode cX11_newCommunity 86 = .ok (.iconst 1, 1) := by decide +kernel
theorem dX11_newCommunity_87 : decode cX11_newCommunity 87 = .ok (.isub, 1) := by decide +kernel
theorem dX11_newCommunity_88 : decode cX11_newCommunity 88 = .ok (.ireturn, 1) := by decide +kernel
theorem dX11_communityNamed_0 : decode cX11_communityNamed 0 = .ok (.iconst 0, 1) := by decide +kernel
theorem dX11_communityNamed_1 : decode cX11_communityNamed 1 = .ok (.istore_n 2, 1) := by decide +kernel
theorem dX11_communityNamed_2 : decode cX11_communityNamed 2 = .ok (.iload_n 2, 1) := by decide +kernel
theorem dX11_communityNamed_3 : decode cX11_communityNamed 3 = .ok (.aload_n 0, 1) := by decide +kernel
theorem dX11_communityNamed_4 : decode cX11_communityNamed 4 = .ok (.getfield 30, 3) := by decide +kernel
theorem dX11_communityNamed_7 : decode cX11_communityNamed 7 = .ok (.arraylength, 1) := by decide +kernel
theorem dX11_communityNamed_8 : decode cX11_communityNamed 8 = .ok (.if_icmp .ge 33, 3) := by decide +kernel
theorem dX11_communityNamed_11 : decode cX11_communityNamed 11 = .ok (.aload_n 0, 1) := by decide +kernel
theorem dX11_communityNamed_12 : decode cX11_communityNamed 12 = .ok (.getfield 30, 3) := by decide +kernel
theorem dX11_communityNamed_15 : decode cX11_communityNamed 15 = .ok (.iload_n 2, 1) := by decide +kernel
theorem dX11_communityNamed_16 : decode cX11_communityNamed 16 = .ok (.aaload, 1) := by decide +kernel
theorem dX11_communityNamed_17 : decode cX11_communityNamed 17 = .ok (.astore_n 3, 1) := by decide +kernel
theorem dX11_communityNamed_18 : decode cX11_communityNamed 18 = .ok (.aload_n 3, 1) := by decide +kernel
theorem dX11_communityNamed_19 : decode cX11_communityNamed 19 = .ok (.ifnull 16, 3) := by decide +kernel
theorem dX11_communityNamed_22 : decode cX11_communityNamed 22 = .ok (.aload_n 3, 1) := by decide +kernel
theorem dX11_communityNamed_23 : decode cX11_communityNamed 23 = .ok (.getfield 275, 3) := by decide +kernel
theorem dX11_communityNamed_26 : decode cX11_communityNamed 26 = .ok (.aload_n 1, 1) := by decide +kernel
theorem dX11_communityNamed_27 : decode cX11_communityNamed 27 = .ok (.invokevirtual 276, 3) := by decide +kernel
theorem dX11_communityNamed_30 : decode cX11_communityNamed 30 = .ok (.ifCond .eq 5, 3) := by decide +kernel
theorem dX11_communityNamed_33 : decode cX11_communityNamed 33 = .ok (.aload_n 3, 1) := by decide +kernel
theorem dX11_communityNamed_34 : decode cX11_communityNamed 34 = .ok (.areturn, 1) := by decide +kernel
theorem dX11_communityNamed_35 : decode cX11_communityNamed 35 = .ok (.iinc 2 1, 3) := by decide +kernel
theorem dX11_communityNamed_38 : decode cX11_communityNamed 38 = .ok (.goto (-36), 3) := by decide +kernel
theorem dX11_communityNamed_41 : decode cX11_communityNamed 41 = .ok (.aconst_null, 1) := by decide +kernel
theorem dX11_communityNamed_42 : decode cX11_communityNamed 42 = .ok (.areturn, 1) := by decide +kernel
theorem dX11_view_0 : decode cX11_view 0 = .ok (.aload_n 0, 1) := by decide +kernel
theorem dX11_view_1 : decode cX11_view 1 = .ok (.iload_n 1, 1) := by decide +kernel
theorem dX11_view_2 : decode cX11_view 2 = .ok (.iload_n 2, 1) := by decide +kernel
theorem dX11_view_3 : decode cX11_view 3 = .ok (.invokevirtual 279, 3) := by decide +kernel
theorem dX11_view_6 : decode cX11_view 6 = .ok (.istore_n 3, 1) := by decide +kernel
theorem dX11_view_7 : decode cX11_view 7 = .ok (.aload_n 0, 1) := by decide +kernel
theorem dX11_view_8 : decode cX11_view 8 = .ok (.getfield 18, 3) := by decide +kernel
theorem dX11_view_11 : decode cX11_view 11 = .ok (.invokevirtual 95, 3) := by decide +kernel
theorem dX11_view_14 : decode cX11_view 14 = .ok (.iload_n 3, 1) := by decide +kernel
theorem dX11_view_15 : decode cX11_view 15 = .ok (.ireturn, 1) := by decide +kernel
theorem dX11_newView_0 : decode cX11_newView 0 = .ok (.iload_n 1, 1) := by decide +kernel
theorem dX11_newView_1 : decode cX11_newView 1 = .ok (.ifCond .lt 16, 3) := by decide +kernel
theorem dX11_newView_4 : decode cX11_newView 4 = .ok (.iload_n 1, 1) := by decide +kernel
theorem dX11_newView_5 : decode cX11_newView 5 = .ok (.aload_n 0, 1) := by decide +kernel
theorem dX11_newView_6 : decode cX11_newView 6 = .ok (.getfield 30, 3) := by decide +kernel
theorem dX11_newView_9 : decode cX11_newView 9 = .ok (.arraylength, 1) := by decide +kernel
theorem dX11_newView_10 : decode cX11_newView 10 = .ok (.if_icmp .ge 7, 3) := by decide +kernel
theorem dX11_newView_13 : decode cX11_newView 13 = .ok (.iconst 1, 1) := by decide +kernel
theorem dX11_newView_14 : decode cX11_newView 14 = .ok (.goto 4, 3) := by decide +kernel
theorem dX11_newView_17 : decode cX11_newView 17 = .ok (.iconst 0, 1) := by decide +kernel
theorem dX11_newView_18 : decode cX11_newView 18 = .ok (.istore_n 3, 1) := by decide +kernel
theorem dX11_newView_19 : decode cX11_newView 19 = .ok (.iload_n 3, 1) := by decide +kernel
theorem dX11_newView_20 : decode cX11_newView 20 = .ok (.ifCond .eq 12, 3) := by decide +kernel
theorem dX11_newView_23 : decode cX11_newView 23 = .ok (.aload_n 0, 1) := by decide +kernel
theorem dX11_newView_24 : decode cX11_newView 24 = .ok (.getfield 30, 3) := by decide +kernel
theorem dX11_newView_27 : decode cX11_newView 27 = .ok (.iload_n 1, 1) := by decide +kernel
theorem dX11_newView_28 : decode cX11_newView 28 = .ok (.aaload, 1) := by decide +kernel
theorem dX11_newView_29 : decode cX11_newView 29 = .ok (.goto 4, 3) := by decide +kernel
theorem dX11_newView_32 : decode cX11_newView 32 = .ok (.aconst_null, 1) := by decide +kernel
theorem dX11_newView_33 : decode cX11_newView 33 = .ok (.astore 4, 2) := by decide +kernel
theorem dX11_newView_35 : decode cX11_newView 35 = .ok (.aload 4, 2) := by decide +kernel
theorem dX11_newView_37 : decode cX11_newView 37 = .ok (.ifnonnull 5, 3) := by decide +kernel
theorem dX11_newView_40 : decode cX11_newView 40 = .ok (.iconst (-1), 1) := by decide +kernel
theorem dX11_newView_41 : decode cX11_newView 41 = .ok (.ireturn, 1) := by decide +kernel
theorem dX11_newView_42 : decode cX11_newView 42 = .ok (.aload_n 0, 1) := by decide +kernel
theorem dX11_newView_43 : decode cX11_newView 43 = .ok (.bipush 16, 2) := by decide +kernel
theorem dX11_newView_45 : decode cX11_newView 45 = .ok (.invokevirtual 131, 3) := by decide +kernel
theorem dX11_newView_48 : decode cX11_newView 48 = .ok (.ifCond .ne 6, 3) := by decide +kernel
theorem dX11_newView_51 : decode cX11_newView 51 = .ok (.bipush (-2), 2) := by decide +kernel
theorem dX11_newView_53 : decode cX11_newView 53 = .ok (.ireturn, 1) := by decide +kernel
theorem dX11_newView_54 : decode cX11_newView 54 = .ok (.aload 4, 2) := by decide +kernel
theorem dX11_newView_56 : decode cX11_newView 56 = .ok (.aload_n 0, 1) := by decide +kernel
theorem dX11_newView_57 : decode cX11_newView 57 = .ok (.getfield 18, 3) := by decide +kernel
theorem dX11_newView_60 : decode cX11_newView 60 = .ok (.iload_n 2, 1) := by decide +kernel
theorem dX11_newView_61 : decode cX11_newView 61 = .ok (.invokevirtual 283, 3) := by decide +kernel
theorem dX11_newView_64 : decode cX11_newView 64 = .ok (.ifCond .eq 11, 3) := by decide +kernel
theorem dX11_newView_67 : decode cX11_newView 67 = .ok (.aload 4, 2) := by decide +kernel
theorem dX11_newView_69 : decode cX11_newView 69 = .ok (.invokevirtual 287, 3) := by decide +kernel
theorem dX11_newView_72 : decode cX11_newView 72 = .ok (.goto 5, 3) := by decide +kernel
theorem dX11_newView_75 : decode cX11_newView 75 = .ok (.bipush (-4), 2) := by decide +kernel
theorem dX11_newView_77 : decode cX11_newView 77 = .ok (.ireturn, 1) := by decide +kernel
theorem dX11_limit_0 : decode cX11_limit 0 = .ok (.iload_n 1, 1) := by decide +kernel
theorem dX11_limit_1 : decode cX11_limit 1 = .ok (.bipush 100, 2) := by decide +kernel
theorem dX11_limit_3 : decode cX11_limit 3 = .ok (.if_icmp .lt 10, 3) := by decide +kernel
theorem dX11_limit_6 : decode cX11_limit 6 = .ok (.iload_n 1, 1) := by decide +kernel
theorem dX11_limit_7 : decode cX11_limit 7 = .ok (.sipush 1000, 3) := by decide +kernel
theorem dX11_limit_10 : decode cX11_limit 10 = .ok (.if_icmp .le 6, 3) := by decide +kernel
theorem dX11_limit_13 : decode cX11_limit 13 = .ok (.bipush (-2), 2) := by decide +kernel
theorem dX11_limit_15 : decode cX11_limit 15 = .ok (.ireturn, 1) := by decide +kernel
theorem dX11_limit_16 : decode cX11_limit 16 = .ok (.aload_n 0, 1) := by decide +kernel
theorem dX11_limit_17 : decode cX11_limit 17 = .ok (.getfield 91, 3) := by decide +kernel
theorem dX11_limit_20 : decode cX11_limit 20 = .ok (.istore_n 2, 1) := by decide +kernel
theorem dX11_limit_21 : decode cX11_limit 21 = .ok (.aload_n 0, 1) := by decide +kernel
theorem dX11_limit_22 : decode cX11_limit 22 = .ok (.iload_n 1, 1) := by decide +kernel
theorem dX11_limit_23 : decode cX11_limit 23 = .ok (.putfield 91, 3) := by decide +kernel
theorem dX11_limit_26 : decode cX11_limit 26 = .ok (.iload_n 2, 1) := by decide +kernel
theorem dX11_limit_27 : decode cX11_limit 27 = .ok (.ireturn, 1) := by decide +kernel
theorem dX11_tick_0 : decode cX11_tick 0 = .ok (.lload_n 1, 1) := by decide +kernel
theorem dX11_tick_1 : decode cX11_tick 1 = .ok (.lconst 0, 1) := by decide +kernel
theorem dX11_tick_2 : decode cX11_tick 2 = .ok (.lcmp, 1) := by decide +kernel
theorem dX11_tick_3 : decode cX11_tick 3 = .ok (.ifCond .lt 16, 3) := by decide +kernel
theorem dX11_tick_6 : decode cX11_tick 6 = .ok (.lload_n 1, 1) := by decide +kernel
theorem dX11_tick_7 : decode cX11_tick 7 = .ok (.ldc2_w 290, 3) := by decide +kernel
theorem dX11_tick_10 : decode cX11_tick 10 = .ok (.aload_n 0, 1) := by decide +kernel
theorem dX11_tick_11 : decode cX11_tick 11 = .ok (.getfield 292, 3) := by decide +kernel
theorem dX11_tick_14 : decode cX11_tick 14 = .ok (.lsub, 1) := by decide +kernel
theorem dX11_tick_15 : decode cX11_tick 15 = .ok (.lcmp, 1) := by decide +kernel
theorem dX11_tick_16 : decode cX11_tick 16 = .ok (.ifCond .le 7, 3) := by decide +kernel
theorem dX11_tick_19 : decode cX11_tick 19 = .ok (.ldc2_w 295, 3) := by decide +kernel
theorem dX11_tick_22 : decode cX11_tick 22 = .ok (.lreturn, 1) := by decide +kernel
theorem dX11_tick_23 : decode cX11_tick 23 = .ok (.aload_n 0, 1) := by decide +kernel
theorem dX11_tick_24 : decode cX11_tick 24 = .ok (.dup, 1) := by decide +kernel
theorem dX11_tick_25 : decode cX11_tick 25 = .ok (.getfield 292, 3) := by decide +kernel
theorem dX11_tick_28 : decode cX11_tick 28 = .ok (.lload_n 1, 1) := by decide +kernel
theorem dX11_tick_29 : decode cX11_tick 29 = .ok (.ladd, 1) := by decide +kernel
theorem dX11_tick_30 : decode cX11_tick 30 = .ok (.putfield 292, 3) := by decide +kernel
theorem dX11_tick_33 : decode cX11_tick 33 = .ok (.aload_n 0, 1) := by decide +kernel
theorem dX11_tick_34 : decode cX11_tick 34 = .ok (.getfield 78, 3) := by decide +kernel
theorem dX11_tick_37 : decode cX11_tick 37 = .ok (.aload_n 0, 1) := by decide +kernel
theorem dX11_tick_38 : decode cX11_tick 38 = .ok (.getfield 292, 3) := by decide +kernel
theorem dX11_tick_41 : decode cX11_tick 41 = .ok (.ldc2_w 118, 3) := by decide +kernel
theorem dX11_tick_44 : decode cX11_tick 44 = .ok (.land, 1) := by decide +kernel
theorem dX11_tick_45 : decode cX11_tick 45 = .ok (.putfield 238, 3) := by decide +kernel
theorem dX11_tick_48 : decode cX11_tick 48 = .ok (.aload_n 0, 1) := by decide +kernel
theorem dX11_tick_49 : decode cX11_tick 49 = .ok (.getfield 292, 3) := by decide +kernel
theorem dX11_tick_52 : decode cX11_tick 52 = .ok (.lreturn, 1) := by decide +kernel
theorem dX11_question_0 : decode cX11_question 0 = .ok (.aload_n 0, 1) := by decide +kernel
theorem dX11_question_1 : decode cX11_question 1 = .ok (.getfield 62, 3) := by decide +kernel
theorem dX11_question_4 : decode cX11_question 4 = .ok (.invokevirtual 297, 3) := by decide +kernel
theorem dX11_question_7 : decode cX11_question 7 = .ok (.aload_n 0, 1) := by decide +kernel
theorem dX11_question_8 : decode cX11_question 8 = .ok (.invokevirtual 298, 3) := by decide +kernel
theorem dX11_question_11 : decode cX11_question 11 = .ok (.istore_n 1, 1) := by decide +kernel
theorem dX11_question_12 : decode cX11_question 12 = .ok (.aload_n 0, 1) := by decide +kernel
theorem dX11_question_13 : decode cX11_question 13 = .ok (.getfield 14, 3) := by decide +kernel
theorem dX11_question_16 : decode cX11_question 16 = .ok (.invokevirtual 95, 3) := by decide +kernel
theorem dX11_question_19 : decode cX11_question 19 = .ok (.iload_n 1, 1) := by decide +kernel
theorem dX11_question_20 : decode cX11_question 20 = .ok (.ifCond .eq 10, 3) := by decide +kernel
theorem dX11_question_23 : decode cX11_question 23 = .ok (.aload_n 0, 1) := by decide +kernel
theorem dX11_question_24 : decode cX11_question 24 = .ok (.iload_n 1, 1) := by decide +kernel
theorem dX11_question_25 : decode cX11_question 25 = .ok (.invokevirtual 301, 3) := by decide +kernel
theorem dX11_question_28 : decode cX11_question 28 = .ok (.iconst 0, 1) := by decide +kernel
theorem dX11_question_29 : decode cX11_question 29 = .ok (.ireturn, 1) := by decide +kernel
theorem dX11_question_30 : decode cX11_question 30 = .ok (.aload_n 0, 1) := by decide +kernel
theorem dX11_question_31 : decode cX11_question 31 = .ok (.getfield 37, 3) := by decide +kernel
theorem dX11_question_34 : decode cX11_question 34 = .ok (.getfield 304, 3) := by decide +kernel
theorem dX11_question_37 : decode cX11_question 37 = .ok (.lookupswitch 56 #[(160, 35), (161, 42), (165, 49)], 35) := by decide +kernel
theorem dX11_question_72 : decode cX11_question 72 = .ok (.aload_n 0, 1) := by decide +kernel
theorem dX11_question_73 : decode cX11_question 73 = .ok (.invokevirtual 307, 3) := by decide +kernel
theorem dX11_question_76 : decode cX11_question 76 = .ok (.goto 21, 3) := by decide +kernel
theorem dX11_question_79 : decode cX11_question 79 = .ok (.aload_n 0, 1) := by decide +kernel
theorem dX11_question_80 : decode cX11_question 80 = .ok (.invokevirtual 310, 3) := by decide +kernel
theorem dX11_question_83 : decode cX11_question 83 = .ok (.goto 14, 3) := by decide +kernel
theorem dX11_question_86 : decode cX11_question 86 = .ok (.aload_n 0, 1) := by decide +kernel
theorem dX11_question_87 : decode cX11_question 87 = .ok (.invokevirtual 313, 3) := by decide +kernel
theorem dX11_question_90 : decode cX11_question 90 = .ok (.goto 7, 3) := by decide +kernel
theorem dX11_question_93 : decode cX11_question 93 = .ok (.aload_n 0, 1) := by decide +kernel
theorem dX11_question_94 : decode cX11_question 94 = .ok (.invokevirtual 316, 3) := by decide +kernel
theorem dX11_question_97 : decode cX11_question 97 = .ok (.aload_n 0, 1) := by decide +kernel
theorem dX11_question_98 : decode cX11_question 98 = .ok (.invokevirtual 319, 3) := by decide +kernel
theorem dX11_question_101 : decode cX11_question 101 = .ok (.ireturn, 1) := by decide +kernel
theorem dX11_takeMessage_0 : decode cX11_takeMessage 0 = .ok (.aload_n 0, 1) := by decide +kernel
theorem dX11_takeMessage_1 : decode cX11_takeMessage 1 = .ok (.getfield 46, 3) := by decide +kernel
theorem dX11_takeMessage_4 : decode cX11_takeMessage 4 = .ok (.aload_n 0, 1) := by decide +kernel
theorem dX11_takeMessage_5 : decode cX11_takeMessage 5 = .ok (.getfield 37, 3) := by decide +kernel
theorem dX11_takeMessage_8 : decode cX11_takeMessage 8 = .ok (.invokevirtual 322, 3) := by decide +kernel
theorem dX11_takeMessage_11 : decode cX11_takeMessage 11 = .ok (.istore_n 1, 1) := by decide +kernel
theorem dX11_takeMessage_12 : decode cX11_takeMessage 12 = .ok (.iload_n 1, 1) := by decide +kernel
theorem dX11_takeMessage_13 : decode cX11_takeMessage 13 = .ok (.ifCond .eq 5, 3) := by decide +kernel
theorem dX11_takeMessage_16 : decode cX11_takeMessage 16 = .ok (.iload_n 1, 1) := by decide +kernel
theorem dX11_takeMessage_17 : decode cX11_takeMessage 17 = .ok (.ireturn, 1) := by decide +kernel
theorem dX11_takeMessage_18 : decode cX11_takeMessage 18 = .ok (.aload_n 0, 1) := by decide +kernel
theorem dX11_takeMessage_19 : decode cX11_takeMessage 19 = .ok (.getfield 37, 3) := by decide +kernel
theorem dX11_takeMessage_22 : decode cX11_takeMessage 22 = .ok (.aload_n 0, 1) := by decide +kernel
theorem dX11_takeMessage_23 : decode cX11_takeMessage 23 = .ok (.aload_n 0, 1) := by decide +kernel
theorem dX11_takeMessage_24 : decode cX11_takeMessage 24 = .ok (.getfield 37, 3) := by decide +kernel
theorem dX11_takeMessage_27 : decode cX11_takeMessage 27 = .ok (.getfield 326, 3) := by decide +kernel
theorem dX11_takeMessage_30 : decode cX11_takeMessage 30 = .ok (.invokevirtual 265, 3) := by decide +kernel
theorem dX11_takeMessage_33 : decode cX11_takeMessage 33 = .ok (.putfield 329, 3) := by decide +kernel
theorem dX11_takeMessage_36 : decode cX11_takeMessage 36 = .ok (.aload_n 0, 1) := by decide +kernel
theorem dX11_takeMessage_37 : decode cX11_takeMessage 37 = .ok (.getfield 37, 3) := by decide +kernel
theorem dX11_takeMessage_40 : decode cX11_takeMessage 40 = .ok (.getfield 329, 3) := by decide +kernel
theorem dX11_takeMessage_43 : decode cX11_takeMessage 43 = .ok (.ifnonnull 5, 3) := by decide +kernel
theorem dX11_takeMessage_46 : decode cX11_takeMessage 46 = .ok (.iconst 3, 1) := by decide +kernel
theorem dX11_takeMessage_47 : decode cX11_takeMessage 47 = .ok (.ireturn, 1) := by decide +kernel
theorem dX11_takeMessage_48 : decode cX11_takeMessage 48 = .ok (.aload_n 0, 1) := by decide +kernel
theorem dX11_takeMessage_49 : decode cX11_takeMessage 49 = .ok (.getfield 46, 3) := by decide +kernel
theorem dX11_takeMessage_52 : decode cX11_takeMessage 52 = .ok (.aload_n 0, 1) := by decide +kernel
theorem dX11_takeMessage_53 : decode cX11_takeMessage 53 = .ok (.getfield 37, 3) := by decide +kernel
theorem dX11_takeMessage_56 : decode cX11_takeMessage 56 = .ok (.invokevirtual 333, 3) := by decide +kernel
theorem dX11_takeMessage_59 : decode cX11_takeMessage 59 = .ok (.ifCond .eq 7, 3) := by decide +kernel
theorem dX11_takeMessage_62 : decode cX11_takeMessage 62 = .ok (.iconst 0, 1) := by decide +kernel
theorem dX11_takeMessage_63 : decode cX11_takeMessage 63 = .ok (.goto 4, 3) := by decide +kernel
theorem dX11_takeMessage_66 : decode cX11_takeMessage 66 = .ok (.iconst 1, 1) := by decide +kernel
theorem dX11_takeMessage_67 : decode cX11_takeMessage 67 = .ok (.ireturn, 1) := by decide +kernel
theorem dX11_countOne_0 : decode cX11_countOne 0 = .ok (.iload_n 1, 1) := by decide +kernel
theorem dX11_countOne_1 : decode cX11_countOne 1 = .ok (.ifCond .lt 22, 3) := by decide +kernel
theorem dX11_countOne_4 : decode cX11_countOne 4 = .ok (.iload_n 1, 1) := by decide +kernel
theorem dX11_countOne_5 : decode cX11_countOne 5 = .ok (.aload_n 0, 1) := by decide +kernel
theorem dX11_countOne_6 : decode cX11_countOne 6 = .ok (.getfield 66, 3) := by decide +kernel
theorem dX11_countOne_9 : decode cX11_countOne 9 = .ok (.arraylength, 1) := by decide +kernel
theorem dX11_countOne_10 : decode cX11_countOne 10 = .ok (.if_icmp .ge 13, 3) := by decide +kernel
theorem dX11_countOne_13 : decode cX11_countOne 13 = .ok (.aload_n 0, 1) := by decide +kernel
theorem dX11_countOne_14 : decode cX11_countOne 14 = .ok (.getfield 66, 3) := by decide +kernel
theorem dX11_countOne_17 : decode cX11_countOne 17 = .ok (.iload_n 1, 1) := by decide +kernel
theorem dX11_countOne_18 : decode cX11_countOne 18 = .ok (.dup2, 1) := by decide +kernel
theorem dX11_countOne_19 : decode cX11_countOne 19 = .ok (.iaload, 1) := by decide +kernel
theorem dX11_countOne_20 : decode cX11_countOne 20 = .ok (.iconst 1, 1) := by decide +kernel
theorem dX11_countOne_21 : decode cX11_countOne 21 = .ok (.iadd, 1) := by decide +kernel
theorem dX11_countOne_22 : decode cX11_countOne 22 = .ok (.iastore, 1) := by decide +kernel
theorem dX11_countOne_23 : decode cX11_countOne 23 = .ok (.return_, 1) := by decide +kernel
theorem dX11_tellValues_0 : decode cX11_tellValues 0 = .ok (.iconst 0, 1) := by decide +kernel
theorem dX11_tellValues_1 : decode cX11_tellValues 1 = .ok (.istore_n 1, 1) := by decide +kernel
theorem dX11_tellValues_2 : decode cX11_tellValues 2 = .ok (.iload_n 1, 1) := by decide +kernel
theorem dX11_tellValues_3 : decode cX11_tellValues 3 = .ok (.aload_n 0, 1) := by decide +kernel
theorem dX11_tellValues_4 : decode cX11_tellValues 4 = .ok (.getfield 37, 3) := by decide +kernel
theorem dX11_tellValues_7 : decode cX11_tellValues 7 = .ok (.getfield 337, 3) := by decide +kernel
theorem dX11_tellValues_10 : decode cX11_tellValues 10 = .ok (.if_icmp .ge 73, 3) := by decide +kernel
theorem dX11_tellValues_13 : decode cX11_tellValues 13 = .ok (.aload_n 0, 1) := by decide +kernel
theorem dX11_tellValues_14 : decode cX11_tellValues 14 = .ok (.getfield 37, 3) := by decide +kernel
theorem dX11_tellValues_17 : decode cX11_tellValues 17 = .ok (.iload_n 1, 1) := by decide +kernel
theorem dX11_tellValues_18 : decode cX11_tellValues 18 = .ok (.invokevirtual 340, 3) := by decide +kernel
theorem dX11_tellValues_21 : decode cX11_tellValues 21 = .ok (.astore_n 2, 1) := by decide +kernel
theorem dX11_tellValues_22 : decode cX11_tellValues 22 = .ok (.aload_n 2, 1) := by decide +kernel
theorem dX11_tellValues_23 : decode cX11_tellValues 23 = .ok (.ifnonnull 4, 3) := by decide +kernel
theorem dX11_tellValues_26 : decode cX11_tellValues 26 = .ok (.return_, 1) := by decide +kernel
theorem dX11_tellValues_27 : decode cX11_tellValues 27 = .ok (.aload_n 0, 1) := by decide +kernel
theorem dX11_tellValues_28 : decode cX11_tellValues 28 = .ok (.aload_n 2, 1) := by decide +kernel
theorem dX11_tellValues_29 : decode cX11_tellValues 29 = .ok (.getfield 344, 3) := by decide +kernel
theorem dX11_tellValues_32 : decode cX11_tellValues 32 = .ok (.invokevirtual 347, 3) := by decide +kernel
theorem dX11_tellValues_35 : decode cX11_tellValues 35 = .ok (.astore_n 3, 1) := by decide +kernel
theorem dX11_tellValues_36 : decode cX11_tellValues 36 = .ok (.aload_n 0, 1) := by decide +kernel
theorem dX11_tellValues_37 : decode cX11_tellValues 37 = .ok (.getfield 37, 3) := by decide +kernel
theorem dX11_tellValues_40 : decode cX11_tellValues 40 = .ok (.getfield 351, 3) := by decide +kernel
theorem dX11_tellValues_43 : decode cX11_tellValues 43 = .ok (.ifCond .ne 22, 3) := by decide +kernel
theorem dX11_tellValues_46 : decode cX11_tellValues 46 = .ok (.aload_n 3, 1) := by decide +kernel
theorem dX11_tellValues_47 : decode cX11_tellValues 47 = .ok (.invokevirtual 354, 3) := by decide +kernel
theorem dX11_tellValues_50 : decode cX11_tellValues 50 = .ok (.ifCond .eq 15, 3) := by decide +kernel
theorem dX11_tellValues_53 : decode cX11_tellValues 53 = .ok (.aload_n 0, 1) := by decide +kernel
theorem dX11_tellValues_54 : decode cX11_tellValues 54 = .ok (.getfield 62, 3) := by decide +kernel
theorem dX11_tellValues_57 : decode cX11_tellValues 57 = .ok (.iconst 2, 1) := by decide +kernel
theorem dX11_tellValues_58 : decode cX11_tellValues 58 = .ok (.iload_n 1, 1) := by decide +kernel
theorem dX11_tellValues_59 : decode cX11_tellValues 59 = .ok (.iconst 1, 1) := by decide +kernel
theorem dX11_tellValues_60 : decode cX11_tellValues 60 = .ok (.iadd, 1) := by decide +kernel
theorem dX11_tellValues_61 : decode cX11_tellValues 61 = .ok (.invokevirtual 357, 3) := by decide +kernel
theorem dX11_tellValues_64 : decode cX11_tellValues 64 = .ok (.return_, 1) := by decide +kernel
theorem dX11_tellValues_65 : decode cX11_tellValues 65 = .ok (.aload_n 0, 1) := by decide +kernel
theorem dX11_tellValues_66 : decode cX11_tellValues 66 = .ok (.getfield 62, 3) := by decide +kernel
theorem dX11_tellValues_69 : decode cX11_tellValues 69 = .ok (.aload_n 2, 1) := by decide +kernel
theorem dX11_tellValues_70 : decode cX11_tellValues 70 = .ok (.getfield 344, 3) := by decide +kernel
theorem dX11_tellValues_73 : decode cX11_tellValues 73 = .ok (.aload_n 3, 1) := by decide +kernel
theorem dX11_tellValues_74 : decode cX11_tellValues 74 = .ok (.invokevirtual 360, 3) := by decide +kernel
theorem dX11_tellValues_77 : decode cX11_tellValues 77 = .ok (.iinc 1 1, 3) := by decide +kernel
theorem dX11_tellValues_80 : decode cX11_tellValues 80 = .ok (.goto (-78), 3) := by decide +kernel
theorem dX11_tellValues_83 : decode cX11_tellValues 83 = .ok (.return_, 1) := by decide +kernel
theorem dX11_valueFor_0 : decode cX11_valueFor 0 = .ok (.aload_n 0, 1) := by decide +kernel
theorem dX11_valueFor_1 : decode cX11_valueFor 1 = .ok (.getfield 24, 3) := by decide +kernel
theorem dX11_valueFor_4 : decode cX11_valueFor 4 = .ok (.aload_n 1, 1) := by decide +kernel
theorem dX11_valueFor_5 : decode cX11_valueFor 5 = .ok (.invokevirtual 364, 3) := by decide +kernel
theorem dX11_valueFor_8 : decode cX11_valueFor 8 = .ok (.astore_n 2, 1) := by decide +kernel
theorem dX11_valueFor_9 : decode cX11_valueFor 9 = .ok (.aload_n 0, 1) := by decide +kernel
theorem dX11_valueFor_10 : decode cX11_valueFor 10 = .ok (.getfield 37, 3) := by decide +kernel
theorem dX11_valueFor_13 : decode cX11_valueFor 13 = .ok (.getfield 329, 3) := by decide +kernel
theorem dX11_valueFor_16 : decode cX11_valueFor 16 = .ok (.astore_n 3, 1) := by decide +kernel
theorem dX11_valueFor_17 : decode cX11_valueFor 17 = .ok (.aload_n 2, 1) := by decide +kernel
theorem dX11_valueFor_18 : decode cX11_valueFor 18 = .ok (.ifnull 22, 3) := by decide +kernel
theorem dX11_valueFor_21 : decode cX11_valueFor 21 = .ok (.aload_n 2, 1) := by decide +kernel
theorem dX11_valueFor_22 : decode cX11_valueFor 22 = .ok (.getfield 368, 3) := by decide +kernel
theorem dX11_valueFor_25 : decode cX11_valueFor 25 = .ok (.ifCond .eq 15, 3) := by decide +kernel
theorem dX11_valueFor_28 : decode cX11_valueFor 28 = .ok (.aload_n 3, 1) := by decide +kernel
theorem dX11_valueFor_29 : decode cX11_valueFor 29 = .ok (.ifnull 11, 3) := by decide +kernel
theorem dX11_valueFor_32 : decode cX11_valueFor 32 = .ok (.aload_n 3, 1) := by decide +kernel
theorem dX11_valueFor_33 : decode cX11_valueFor 33 = .ok (.aload_n 1, 1) := by decide +kernel
theorem dX11_valueFor_34 : decode cX11_valueFor 34 = .ok (.invokevirtual 371, 3) := by decide +kernel
theorem dX11_valueFor_37 : decode cX11_valueFor 37 = .ok (.ifCond .ne 8, 3) := by decide +kernel
theorem dX11_valueFor_40 : decode cX11_valueFor 40 = .ok (.aload_n 0, 1) := by decide +kernel
theorem dX11_valueFor_41 : decode cX11_valueFor 41 = .ok (.getfield 82, 3) := by decide +kernel
theorem dX11_valueFor_44 : decode cX11_valueFor 44 = .ok (.areturn, 1) := by decide +kernel
theorem dX11_valueFor_45 : decode cX11_valueFor 45 = .ok (.aload_n 2, 1) := by decide +kernel
theorem dX11_valueFor_46 : decode cX11_valueFor 46 = .ok (.getfield 374, 3) := by decide +kernel
theorem dX11_valueFor_49 : decode cX11_valueFor 49 = .ok (.invokevirtual 98, 3) := by decide +kernel
theorem dX11_valueFor_52 : decode cX11_valueFor 52 = .ok (.istore 4, 2) := by decide +kernel
theorem dX11_valueFor_54 : decode cX11_valueFor 54 = .ok (.aload_n 1, 1) := by decide +kernel
theorem dX11_valueFor_55 : decode cX11_valueFor 55 = .ok (.invokevirtual 98, 3) := by decide +kernel
theorem dX11_valueFor_58 : decode cX11_valueFor 58 = .ok (.iload 4, 2) := by decide +kernel
theorem dX11_valueFor_60 : decode cX11_valueFor 60 = .ok (.iconst 1, 1) := by decide +kernel
theorem dX11_valueFor_61 : decode cX11_valueFor 61 = .ok (.iadd, 1) := by decide +kernel
theorem dX11_valueFor_62 : decode cX11_valueFor 62 = .ok (.if_icmp .ne 16, 3) := by decide +kernel
theorem dX11_valueFor_65 : decode cX11_valueFor 65 = .ok (.aload_n 2, 1) := by decide +kernel
theorem dX11_valueFor_66 : decode cX11_valueFor 66 = .ok (.aload_n 1, 1) := by decide +kernel
theorem dX11_valueFor_67 : decode cX11_valueFor 67 = .ok (.iload 4, 2) := by decide +kernel
theorem dX11_valueFor_69 : decode cX11_valueFor 69 = .ok (.invokevirtual 375, 3) := by decide +kernel
theorem dX11_valueFor_72 : decode cX11_valueFor 72 = .ok (.invokevirtual 224, 3) := by decide +kernel
theorem dX11_valueFor_75 : decode cX11_valueFor 75 = .ok (.goto 4, 3) := by decide +kernel
theorem dX11_valueFor_78 : decode cX11_valueFor 78 = .ok (.aconst_null, 1) := by decide +kernel
theorem dX11_valueFor_79 : decode cX11_valueFor 79 = .ok (.astore 5, 2) := by decide +kernel
theorem dX11_valueFor_81 : decode cX11_valueFor 81 = .ok (.aload 5, 2) := by decide +kernel
theorem dX11_valueFor_83 : decode cX11_valueFor 83 = .ok (.ifnonnull 8, 3) := by decide +kernel
theorem dX11_valueFor_86 : decode cX11_valueFor 86 = .ok (.aload_n 0, 1) := by decide +kernel
theorem dX11_valueFor_87 : decode cX11_valueFor 87 = .ok (.getfield 85, 3) := by decide +kernel
theorem dX11_valueFor_90 : decode cX11_valueFor 90 = .ok (.areturn, 1) := by decide +kernel
theorem dX11_valueFor_91 : decode cX11_valueFor 91 = .ok (.aload_n 2, 1) := by decide +kernel
theorem dX11_valueFor_92 : decode cX11_valueFor 92 = .ok (.invokevirtual 378, 3) := by decide +kernel
theorem dX11_valueFor_95 : decode cX11_valueFor 95 = .ok (.ifCond .eq 10, 3) := by decide +kernel
theorem dX11_valueFor_98 : decode cX11_valueFor 98 = .ok (.aload_n 0, 1) := by decide +kernel
theorem dX11_valueFor_99 : decode cX11_valueFor 99 = .ok (.getfield 78, 3) := by decide +kernel
theorem dX11_valueFor_102 : decode cX11_valueFor 102 = .ok (.goto 5, 3) := by decide +kernel
theorem dX11_valueFor_105 : decode cX11_valueFor 105 = .ok (.aload 5, 2) := by decide +kernel
theorem dX11_valueFor_107 : decode cX11_valueFor 107 = .ok (.areturn, 1) := by decide +kernel
theorem dX11_tellNexts_0 : decode cX11_tellNexts 0 = .ok (.iconst 0, 1) := by decide +kernel
theorem dX11_tellNexts_1 : decode cX11_tellNexts 1 = .ok (.istore_n 1, 1) := by decide +kernel
theorem dX11_tellNexts_2 : decode cX11_tellNexts 2 = .ok (.iload_n 1, 1) := by decide +kernel
theorem dX11_tellNexts_3 : decode cX11_tellNexts 3 = .ok (.aload_n 0, 1) := by decide +kernel
theorem dX11_tellNexts_4 : decode cX11_tellNexts 4 = .ok (.getfield 37, 3) := by decide +kernel
theorem dX11_tellNexts_7 : decode cX11_tellNexts 7 = .ok (.getfield 337, 3) := by decide +kernel
theorem dX11_tellNexts_10 : decode cX11_tellNexts 10 = .ok (.if_icmp .ge 73, 3) := by decide +kernel
theorem dX11_tellNexts_13 : decode cX11_tellNexts 13 = .ok (.aload_n 0, 1) := by decide +kernel
theorem dX11_tellNexts_14 : decode cX11_tellNexts 14 = .ok (.getfield 37, 3) := by decide +kernel
theorem dX11_tellNexts_17 : decode cX11_tellNexts 17 = .ok (.iload_n 1, 1) := by decide +kernel
theorem dX11_tellNexts_18 : decode cX11_tellNexts 18 = .ok (.invokevirtual 340, 3) := by decide +kernel
theorem dX11_tellNexts_21 : decode cX11_tellNexts 21 = .ok (.astore_n 2, 1) := by decide +kernel
theorem dX11_tellNexts_22 : decode cX11_tellNexts 22 = .ok (.aload_n 2, 1) := by decide +kernel
theorem dX11_tellNexts_23 : decode cX11_tellNexts 23 = .ok (.ifnonnull 4, 3) := by decide +kernel
theorem dX11_tellNexts_26 : decode cX11_tellNexts 26 = .ok (.return_, 1) := by decide +kernel
theorem dX11_tellNexts_27 : decode cX11_tellNexts 27 = .ok (.aload_n 0, 1) := by decide +kernel
theorem dX11_tellNexts_28 : decode cX11_tellNexts 28 = .ok (.aload_n 2, 1) := by decide +kernel
theorem dX11_tellNexts_29 : decode cX11_tellNexts 29 = .ok (.getfield 344, 3) := by decide +kernel
theorem dX11_tellNexts_32 : decode cX11_tellNexts 32 = .ok (.invokevirtual 381, 3) := by decide +kernel
theorem dX11_tellNexts_35 : decode cX11_tellNexts 35 = .ok (.astore_n 3, 1) := by decide +kernel
theorem dX11_tellNexts_36 : decode cX11_tellNexts 36 = .ok (.aload_n 0, 1) := by decide +kernel
theorem dX11_tellNexts_37 : decode cX11_tellNexts 37 = .ok (.getfield 37, 3) := by decide +kernel
theorem dX11_tellNexts_40 : decode cX11_tellNexts 40 = .ok (.getfield 351, 3) := by decide +kernel
theorem dX11_tellNexts_43 : decode cX11_tellNexts 43 = .ok (.ifCond .ne 22, 3) := by decide +kernel
theorem dX11_tellNexts_46 : decode cX11_tellNexts 46 = .ok (.aload_n 3, 1) := by decide +kernel
theorem dX11_tellNexts_47 : decode cX11_tellNexts 47 = .ok (.invokevirtual 354, 3) := by decide +kernel
theorem dX11_tellNexts_50 : decode cX11_tellNexts 50 = .ok (.ifCond .eq 15, 3) := by decide +kernel
theorem dX11_tellNexts_53 : decode cX11_tellNexts 53 = .ok (.aload_n 0, 1) := by decide +kernel
theorem dX11_tellNexts_54 : decode cX11_tellNexts 54 = .ok (.getfield 62, 3) := by decide +kernel
theorem dX11_tellNexts_57 : decode cX11_tellNexts 57 = .ok (.iconst 2, 1) := by decide +kernel
theorem dX11_tellNexts_58 : decode cX11_tellNexts 58 = .ok (.iload_n 1, 1) := by decide +kernel
theorem dX11_tellNexts_59 : decode cX11_tellNexts 59 = .ok (.iconst 1, 1) := by decide +kernel
theorem dX11_tellNexts_60 : decode cX11_tellNexts 60 = .ok (.iadd, 1) := by decide +kernel
theorem dX11_tellNexts_61 : decode cX11_tellNexts 61 = .ok (.invokevirtual 357, 3) := by decide +kernel
theorem dX11_tellNexts_64 : decode cX11_tellNexts 64 = .ok (.return_, 1) := by decide +kernel
theorem dX11_tellNexts_65 : decode cX11_tellNexts 65 = .ok (.aload_n 0, 1) := by decide +kernel
theorem dX11_tellNexts_66 : decode cX11_tellNexts 66 = .ok (.getfield 62, 3) := by decide +kernel
theorem dX11_tellNexts_69 : decode cX11_tellNexts 69 = .ok (.aload_n 0, 1) := by decide +kernel
theorem dX11_tellNexts_70 : decode cX11_tellNexts 70 = .ok (.getfield 70, 3) := by decide +kernel
theorem dX11_tellNexts_73 : decode cX11_tellNexts 73 = .ok (.aload_n 3, 1) := by decide +kernel
theorem dX11_tellNexts_74 : decode cX11_tellNexts 74 = .ok (.invokevirtual 360, 3) := by decide +kernel
theorem dX11_tellNexts_77 : decode cX11_tellNexts 77 = .ok (.iinc 1 1, 3) := by decide +kernel
theorem dX11_tellNexts_80 : decode cX11_tellNexts 80 = .ok (.goto (-78), 3) := by decide +kernel
theorem dX11_tellNexts_83 : decode cX11_tellNexts 83 = .ok (.return_, 1) := by decide +kernel
theorem dX11_nextAfter_0 : decode cX11_nextAfter 0 = .ok (.iconst 0, 1) := by decide +kernel
theorem dX11_nextAfter_1 : decode cX11_nextAfter 1 = .ok (.istore_n 2, 1) := by decide +kernel
theorem dX11_nextAfter_2 : decode cX11_nextAfter 2 = .ok (.iload_n 2, 1) := by decide +kernel
theorem dX11_nextAfter_3 : decode cX11_nextAfter 3 = .ok (.aload_n 0, 1) := by decide +kernel
theorem dX11_nextAfter_4 : decode cX11_nextAfter 4 = .ok (.getfield 24, 3) := by decide +kernel
theorem dX11_nextAfter_7 : decode cX11_nextAfter 7 = .ok (.invokevirtual 138, 3) := by decide +kernel
theorem dX11_nextAfter_10 : decode cX11_nextAfter 10 = .ok (.if_icmp .ge 49, 3) := by decide +kernel
theorem dX11_nextAfter_13 : decode cX11_nextAfter 13 = .ok (.aload_n 0, 1) := by decide +kernel
theorem dX11_nextAfter_14 : decode cX11_nextAfter 14 = .ok (.getfield 24, 3) := by decide +kernel
theorem dX11_nextAfter_17 : decode cX11_nextAfter 17 = .ok (.iload_n 2, 1) := by decide +kernel
theorem dX11_nextAfter_18 : decode cX11_nextAfter 18 = .ok (.invokevirtual 384, 3) := by decide +kernel
theorem dX11_nextAfter_21 : decode cX11_nextAfter 21 = .ok (.astore_n 3, 1) := by decide +kernel
theorem dX11_nextAfter_22 : decode cX11_nextAfter 22 = .ok (.aload_n 3, 1) := by decide +kernel
theorem dX11_nextAfter_23 : decode cX11_nextAfter 23 = .ok (.ifnull 10, 3) := by decide +kernel
theorem dX11_nextAfter_26 : decode cX11_nextAfter 26 = .ok (.aload_n 3, 1) := by decide +kernel
theorem dX11_nextAfter_27 : decode cX11_nextAfter 27 = .ok (.getfield 368, 3) := by decide +kernel
theorem dX11_nextAfter_30 : decode cX11_nextAfter 30 = .ok (.ifCond .ne 7, 3) := by decide +kernel
theorem dX11_nextAfter_33 : decode cX11_nextAfter 33 = .ok (.aconst_null, 1) := by decide +kernel
theorem dX11_nextAfter_34 : decode cX11_nextAfter 34 = .ok (.goto 9, 3) := by decide +kernel
theorem dX11_nextAfter_37 : decode cX11_nextAfter 37 = .ok (.aload_n 0, 1) := by decide +kernel
theorem dX11_nextAfter_38 : decode cX11_nextAfter 38 = .ok (.aload_n 3, 1) := by decide +kernel
theorem dX11_nextAfter_39 : decode cX11_nextAfter 39 = .ok (.aload_n 1, 1) := by decide +kernel
theorem dX11_nextAfter_40 : decode cX11_nextAfter 40 = .ok (.invokevirtual 387, 3) := by decide +kernel
theorem dX11_nextAfter_43 : decode cX11_nextAfter 43 = .ok (.astore 4, 2) := by decide +kernel
theorem dX11_nextAfter_45 : decode cX11_nextAfter 45 = .ok (.aload 4, 2) := by decide +kernel
theorem dX11_nextAfter_47 : decode cX11_nextAfter 47 = .ok (.ifnull 6, 3) := by decide +kernel
theorem dX11_nextAfter_50 : decode cX11_nextAfter 50 = .ok (.aload 4, 2) := by decide +kernel
theorem dX11_nextAfter_52 : decode cX11_nextAfter 52 = .ok (.areturn, 1) := by decide +kernel
theorem dX11_nextAfter_53 : decode cX11_nextAfter 53 = .ok (.iinc 2 1, 3) := by decide +kernel
theorem dX11_nextAfter_56 : decode cX11_nextAfter 56 = .ok (.goto (-54), 3) := by decide +kernel
theorem dX11_nextAfter_59 : decode cX11_nextAfter 59 = .ok (.aload_n 0, 1) := by decide +kernel
theorem dX11_nextAfter_60 : decode cX11_nextAfter 60 = .ok (.getfield 70, 3) := by decide +kernel
theorem dX11_nextAfter_63 : decode cX11_nextAfter 63 = .ok (.aload_n 1, 1) := by decide +kernel
theorem dX11_nextAfter_64 : decode cX11_nextAfter 64 = .ok (.invokevirtual 201, 3) := by decide +kernel
theorem dX11_nextAfter_67 : decode cX11_nextAfter 67 = .ok (.aload_n 0, 1) := by decide +kernel
theorem dX11_nextAfter_68 : decode cX11_nextAfter 68 = .ok (.getfield 88, 3) := by decide +kernel
theorem dX11_nextAfter_71 : decode cX11_nextAfter 71 = .ok (.areturn, 1) := by decide +kernel
theorem dX11_nextOf_0 : decode cX11_nextOf 0 = .ok (.aload_n 0, 1) := by decide +kernel
theorem dX11_nextOf_1 : decode cX11_nextOf 1 = .ok (.getfield 37, 3) := by decide +kernel
theorem dX11_nextOf_4 : decode cX11_nextOf 4 = .ok (.getfield 329, 3) := by decide +kernel
theorem dX11_nextOf_7 : decode cX11_nextOf 7 = .ok (.astore_n 3, 1) := by decide +kernel
theorem dX11_nextOf_8 : decode cX11_nextOf 8 = .ok (.aload_n 1, 1) := by decide +kernel
theorem dX11_nextOf_9 : decode cX11_nextOf 9 = .ok (.aload_n 1, 1) := by decide +kernel
theorem dX11_nextOf_10 : decode cX11_nextOf 10 = .ok (.aload_n 2, 1) := by decide +kernel
theorem dX11_nextOf_11 : decode cX11_nextOf 11 = .ok (.invokevirtual 391, 3) := by decide +kernel
theorem dX11_nextOf_14 : decode cX11_nextOf 14 = .ok (.invokevirtual 395, 3) := by decide +kernel
theorem dX11_nextOf_17 : decode cX11_nextOf 17 = .ok (.lstore 4, 2) := by decide +kernel
theorem dX11_nextOf_19 : decode cX11_nextOf 19 = .ok (.iconst 0, 1) := by decide +kernel
theorem dX11_nextOf_20 : decode cX11_nextOf 20 = .ok (.istore 6, 2) := by decide +kernel
theorem dX11_nextOf_22 : decode cX11_nextOf 22 = .ok (.iload 6, 2) := by decide +kernel
theorem dX11_nextOf_24 : decode cX11_nextOf 24 = .ok (.bipush 16, 2) := by decide +kernel
theorem dX11_nextOf_26 : decode cX11_nextOf 26 = .ok (.if_icmp .ge 81, 3) := by decide +kernel
theorem dX11_nextOf_29 : decode cX11_nextOf 29 = .ok (.lload 4, 2) := by decide +kernel
theorem dX11_nextOf_31 : decode cX11_nextOf 31 = .ok (.lconst 0, 1) := by decide +kernel
theorem dX11_nextOf_32 : decode cX11_nextOf 32 = .ok (.lcmp, 1) := by decide +kernel
theorem dX11_nextOf_33 : decode cX11_nextOf 33 = .ok (.ifCond .lt 74, 3) := by decide +kernel
theorem dX11_nextOf_36 : decode cX11_nextOf 36 = .ok (.aload_n 3, 1) := by decide +kernel
theorem dX11_nextOf_37 : decode cX11_nextOf 37 = .ok (.ifnull 70, 3) := by decide +kernel
theorem dX11_nextOf_40 : decode cX11_nextOf 40 = .ok (.aload_n 0, 1) := by decide +kernel
theorem dX11_nextOf_41 : decode cX11_nextOf 41 = .ok (.getfield 70, 3) := by decide +kernel
theorem dX11_nextOf_44 : decode cX11_nextOf 44 = .ok (.aload_n 1, 1) := by decide +kernel
theorem dX11_nextOf_45 : decode cX11_nextOf 45 = .ok (.getfield 374, 3) := by decide +kernel
theorem dX11_nextOf_48 : decode cX11_nextOf 48 = .ok (.invokevirtual 201, 3) := by decide +kernel
theorem dX11_nextOf_51 : decode cX11_nextOf 51 = .ok (.aload_n 0, 1) := by decide +kernel
theorem dX11_nextOf_52 : decode cX11_nextOf 52 = .ok (.getfield 70, 3) := by decide +kernel
theorem dX11_nextOf_55 : decode cX11_nextOf 55 = .ok (.lload 4, 2) := by decide +kernel
theorem dX11_nextOf_57 : decode cX11_nextOf 57 = .ok (.invokevirtual 104, 3) := by decide +kernel
theorem dX11_nextOf_60 : decode cX11_nextOf 60 = .ok (.pop, 1) := by decide +kernel
theorem dX11_nextOf_61 : decode cX11_nextOf 61 = .ok (.aload_n 3, 1) := by decide +kernel
theorem dX11_nextOf_62 : decode cX11_nextOf 62 = .ok (.aload_n 0, 1) := by decide +kernel
theorem dX11_nextOf_63 : decode cX11_nextOf 63 = .ok (.getfield 70, 3) := by decide +kernel
theorem dX11_nextOf_66 : decode cX11_nextOf 66 = .ok (.invokevirtual 371, 3) := by decide +kernel
theorem dX11_nextOf_69 : decode cX11_nextOf 69 = .ok (.ifCond .eq 24, 3) := by decide +kernel
theorem dX11_nextOf_72 : decode cX11_nextOf 72 = .ok (.aload_n 1, 1) := by decide +kernel
theorem dX11_nextOf_73 : decode cX11_nextOf 73 = .ok (.invokevirtual 378, 3) := by decide +kernel
theorem dX11_nextOf_76 : decode cX11_nextOf 76 = .ok (.ifCond .eq 10, 3) := by decide +kernel
theorem dX11_nextOf_79 : decode cX11_nextOf 79 = .ok (.aload_n 0, 1) := by decide +kernel
theorem dX11_nextOf_80 : decode cX11_nextOf 80 = .ok (.getfield 78, 3) := by decide +kernel
theorem dX11_nextOf_83 : decode cX11_nextOf 83 = .ok (.goto 9, 3) := by decide +kernel
theorem dX11_nextOf_86 : decode cX11_nextOf 86 = .ok (.aload_n 1, 1) := by decide +kernel
theorem dX11_nextOf_87 : decode cX11_nextOf 87 = .ok (.lload 4, 2) := by decide +kernel
theorem dX11_nextOf_89 : decode cX11_nextOf 89 = .ok (.invokevirtual 224, 3) := by decide +kernel
theorem dX11_nextOf_92 : decode cX11_nextOf 92 = .ok (.areturn, 1) := by decide +kernel
theorem dX11_nextOf_93 : decode cX11_nextOf 93 = .ok (.aload_n 1, 1) := by decide +kernel
theorem dX11_nextOf_94 : decode cX11_nextOf 94 = .ok (.lload 4, 2) := by decide +kernel
theorem dX11_nextOf_96 : decode cX11_nextOf 96 = .ok (.invokevirtual 395, 3) := by decide +kernel
theorem dX11_nextOf_99 : decode cX11_nextOf 99 = .ok (.lstore 4, 2) := by decide +kernel
theorem dX11_nextOf_101 : decode cX11_nextOf 101 = .ok (.iinc 6 1, 3) := by decide +kernel
theorem dX11_nextOf_104 : decode cX11_nextOf 104 = .ok (.goto (-82), 3) := by decide +kernel
theorem dX11_nextOf_107 : decode cX11_nextOf 107 = .ok (.aconst_null, 1) := by decide +kernel
theorem dX11_nextOf_108 : decode cX11_nextOf 108 = .ok (.areturn, 1) := by decide +kernel
theorem dX11_tellMany_0 : decode cX11_tellMany 0 = .ok (.aload_n 0, 1) := by decide +kernel
theorem dX11_tellMany_1 : decode cX11_tellMany 1 = .ok (.getfield 37, 3) := by decide +kernel
theorem dX11_tellMany_4 : decode cX11_tellMany 4 = .ok (.getfield 399, 3) := by decide +kernel
theorem dX11_tellMany_7 : decode cX11_tellMany 7 = .ok (.iconst 0, 1) := by decide +kernel
theorem dX11_tellMany_8 : decode cX11_tellMany 8 = .ok (.invokestatic 402, 3) := by decide +kernel
theorem dX11_tellMany_11 : decode cX11_tellMany 11 = .ok (.aload_n 0, 1) := by decide +kernel
theorem dX11_tellMany_12 : decode cX11_tellMany 12 = .ok (.getfield 37, 3) := by decide +kernel
theorem dX11_tellMany_15 : decode cX11_tellMany 15 = .ok (.getfield 337, 3) := by decide +kernel
theorem dX11_tellMany_18 : decode cX11_tellMany 18 = .ok (.invokestatic 407, 3) := by decide +kernel
theorem dX11_tellMany_21 : decode cX11_tellMany 21 = .ok (.istore_n 1, 1) := by decide +kernel
theorem dX11_tellMany_22 : decode cX11_tellMany 22 = .ok (.aload_n 0, 1) := by decide +kernel
theorem dX11_tellMany_23 : decode cX11_tellMany 23 = .ok (.getfield 37, 3) := by decide +kernel
theorem dX11_tellMany_26 : decode cX11_tellMany 26 = .ok (.getfield 337, 3) := by decide +kernel
theorem dX11_tellMany_29 : decode cX11_tellMany 29 = .ok (.iload_n 1, 1) := by decide +kernel
theorem dX11_tellMany_30 : decode cX11_tellMany 30 = .ok (.isub, 1) := by decide +kernel
theorem dX11_tellMany_31 : decode cX11_tellMany 31 = .ok (.istore_n 2, 1) := by decide +kernel
theorem dX11_tellMany_32 : decode cX11_tellMany 32 = .ok (.iload_n 1, 1) := by decide +kernel
theorem dX11_tellMany_33 : decode cX11_tellMany 33 = .ok (.i2l, 1) := by decide +kernel
theorem dX11_tellMany_34 : decode cX11_tellMany 34 = .ok (.iload_n 2, 1) := by decide +kernel
theorem dX11_tellMany_35 : decode cX11_tellMany 35 = .ok (.i2l, 1) := by decide +kernel
theorem dX11_tellMany_36 : decode cX11_tellMany 36 = .ok (.aload_n 0, 1) := by decide +kernel
theorem dX11_tellMany_37 : decode cX11_tellMany 37 = .ok (.getfield 37, 3) := by decide +kernel
theorem dX11_tellMany_40 : decode cX11_tellMany 40 = .ok (.getfield 410, 3) := by decide +kernel
theorem dX11_tellMany_43 : decode cX11_tellMany 43 = .ok (.iconst 0, 1) := by decide +kernel
theorem dX11_tellMany_44 : decode cX11_tellMany 44 = .ok (.invokestatic 402, 3) := by decide +kernel
theorem dX11_tellMany_47 : decode cX11_tellMany 47 = .ok (.i2l, 1) := by decide +kernel
theorem dX11_tellMany_48 : decode cX11_tellMany 48 = .ok (.lmul, 1) := by decide +kernel
theorem dX11_tellMany_49 : decode cX11_tellMany 49 = .ok (.ladd, 1) := by decide +kernel
theorem dX11_tellMany_50 : decode cX11_tellMany 50 = .ok (.lstore_n 3, 1) := by decide +kernel
theorem dX11_tellMany_51 : decode cX11_tellMany 51 = .ok (.iconst 0, 1) := by decide +kernel
theorem dX11_tellMany_52 : decode cX11_tellMany 52 = .ok (.istore 5, 2) := by decide +kernel
theorem dX11_tellMany_54 : decode cX11_tellMany 54 = .ok (.iconst 0, 1) := by decide +kernel
theorem dX11_tellMany_55 : decode cX11_tellMany 55 = .ok (.istore 6, 2) := by decide +kernel
theorem dX11_tellMany_57 : decode cX11_tellMany 57 = .ok (.iload 6, 2) := by decide +kernel
theorem dX11_tellMany_59 : decode cX11_tellMany 59 = .ok (.i2l, 1) := by decide +kernel
theorem dX11_tellMany_60 : decode cX11_tellMany 60 = .ok (.lload_n 3, 1) := by decide +kernel
theorem dX11_tellMany_61 : decode cX11_tellMany 61 = .ok (.lcmp, 1) := by decide +kernel
theorem dX11_tellMany_62 : decode cX11_tellMany 62 = .ok (.ifCond .ge 166, 3) := by decide +kernel
theorem dX11_tellMany_65 : decode cX11_tellMany 65 = .ok (.iload 6, 2) := by decide +kernel
theorem dX11_tellMany_67 : decode cX11_tellMany 67 = .ok (.bipush 40, 2) := by decide +kernel
theorem dX11_tellMany_69 : decode cX11_tellMany 69 = .ok (.if_icmp .ge 159, 3) := by decide +kernel
theorem dX11_tellMany_72 : decode cX11_tellMany 72 = .ok (.iload 6, 2) := by decide +kernel
theorem dX11_tellMany_74 : decode cX11_tellMany 74 = .ok (.aload_n 0, 1) := by decide +kernel
theorem dX11_tellMany_75 : decode cX11_tellMany 75 = .ok (.getfield 37, 3) := by decide +kernel
theorem dX11_tellMany_78 : decode cX11_tellMany 78 = .ok (.getfield 337, 3) := by decide +kernel
theorem dX11_tellMany_81 : decode cX11_tellMany 81 = .ok (.if_icmp .ge 15, 3) := by decide +kernel
theorem dX11_tellMany_84 : decode cX11_tellMany 84 = .ok (.aload_n 0, 1) := by decide +kernel
theorem dX11_tellMany_85 : decode cX11_tellMany 85 = .ok (.getfield 37, 3) := by decide +kernel
theorem dX11_tellMany_88 : decode cX11_tellMany 88 = .ok (.iload 6, 2) := by decide +kernel
theorem dX11_tellMany_90 : decode cX11_tellMany 90 = .ok (.invokevirtual 340, 3) := by decide +kernel
theorem dX11_tellMany_93 : decode cX11_tellMany 93 = .ok (.goto 14, 3) := by decide +kernel
theorem dX11_tellMany_96 : decode cX11_tellMany 96 = .ok (.aload_n 0, 1) := by decide +kernel
theorem dX11_tellMany_97 : decode cX11_tellMany 97 = .ok (.getfield 62, 3) := by decide +kernel
theorem dX11_tellMany_100 : decode cX11_tellMany 100 = .ok (.iload 6, 2) := by decide +kernel
theorem dX11_tellMany_102 : decode cX11_tellMany 102 = .ok (.iload_n 2, 1) := by decide +kernel
theorem dX11_tellMany_103 : decode cX11_tellMany 103 = .ok (.isub, 1) := by decide +kernel
theorem dX11_tellMany_104 : decode cX11_tellMany 104 = .ok (.invokevirtual 413, 3) := by decide +kernel
theorem dX11_tellMany_107 : decode cX11_tellMany 107 = .ok (.astore 7, 2) := by decide +kernel
theorem dX11_tellMany_109 : decode cX11_tellMany 109 = .ok (.aload 7, 2) := by decide +kernel
theorem dX11_tellMany_111 : decode cX11_tellMany 111 = .ok (.ifnonnull 4, 3) := by decide +kernel
theorem dX11_tellMany_114 : decode cX11_tellMany 114 = .ok (.return_, 1) := by decide +kernel
theorem dX11_tellMany_115 : decode cX11_tellMany 115 = .ok (.aload_n 0, 1) := by decide +kernel
theorem dX11_tellMany_116 : decode cX11_tellMany 116 = .ok (.aload 7, 2) := by decide +kernel
theorem dX11_tellMany_118 : decode cX11_tellMany 118 = .ok (.getfield 344, 3) := by decide +kernel
theorem dX11_tellMany_121 : decode cX11_tellMany 121 = .ok (.invokevirtual 381, 3) := by decide +kernel
theorem dX11_tellMany_124 : decode cX11_tellMany 124 = .ok (.astore 8, 2) := by decide +kernel
theorem dX11_tellMany_126 : decode cX11_tellMany 126 = .ok (.aload_n 0, 1) := by decide +kernel
theorem dX11_tellMany_127 : decode cX11_tellMany 127 = .ok (.getfield 62, 3) := by decide +kernel
theorem dX11_tellMany_130 : decode cX11_tellMany 130 = .ok (.aload_n 0, 1) := by decide +kernel
theorem dX11_tellMany_131 : decode cX11_tellMany 131 = .ok (.getfield 37, 3) := by decide +kernel
theorem dX11_tellMany_134 : decode cX11_tellMany 134 = .ok (.aload_n 0, 1) := by decide +kernel
theorem dX11_tellMany_135 : decode cX11_tellMany 135 = .ok (.getfield 70, 3) := by decide +kernel
theorem dX11_tellMany_138 : decode cX11_tellMany 138 = .ok (.aload 8, 2) := by decide +kernel
theorem dX11_tellMany_140 : decode cX11_tellMany 140 = .ok (.invokevirtual 414, 3) := by decide +kernel
theorem dX11_tellMany_143 : decode cX11_tellMany 143 = .ok (.aload_n 0, 1) := by decide +kernel
theorem dX11_tellMany_144 : decode cX11_tellMany 144 = .ok (.getfield 91, 3) := by decide +kernel
theorem dX11_tellMany_147 : decode cX11_tellMany 147 = .ok (.if_icmp .le 4, 3) := by decide +kernel
theorem dX11_tellMany_150 : decode cX11_tellMany 150 = .ok (.return_, 1) := by decide +kernel
theorem dX11_tellMany_151 : decode cX11_tellMany 151 = .ok (.aload_n 0, 1) := by decide +kernel
theorem dX11_tellMany_152 : decode cX11_tellMany 152 = .ok (.getfield 62, 3) := by decide +kernel
theorem dX11_tellMany_155 : decode cX11_tellMany 155 = .ok (.aload_n 0, 1) := by decide +kernel
theorem dX11_tellMany_156 : decode cX11_tellMany 156 = .ok (.getfield 70, 3) := by decide +kernel
theorem dX11_tellMany_159 : decode cX11_tellMany 159 = .ok (.aload 8, 2) := by decide +kernel
theorem dX11_tellMany_161 : decode cX11_tellMany 161 = .ok (.invokevirtual 360, 3) := by decide +kernel
theorem dX11_tellMany_164 : decode cX11_tellMany 164 = .ok (.aload 8, 2) := by decide +kernel
theorem dX11_tellMany_166 : decode cX11_tellMany 166 = .ok (.invokevirtual 354, 3) := by decide +kernel
theorem dX11_tellMany_169 : decode cX11_tellMany 169 = .ok (.ifCond .eq 10, 3) := by decide +kernel
theorem dX11_tellMany_172 : decode cX11_tellMany 172 = .ok (.iload 5, 2) := by decide +kernel
theorem dX11_tellMany_174 : decode cX11_tellMany 174 = .ok (.iconst 1, 1) := by decide +kernel
theorem dX11_tellMany_175 : decode cX11_tellMany 175 = .ok (.iadd, 1) := by decide +kernel
theorem dX11_tellMany_176 : decode cX11_tellMany 176 = .ok (.goto 4, 3) := by decide +kernel
theorem dX11_tellMany_179 : decode cX11_tellMany 179 = .ok (.iconst 0, 1) := by decide +kernel
theorem dX11_tellMany_180 : decode cX11_tellMany 180 = .ok (.istore 5, 2) := by decide +kernel
theorem dX11_tellMany_182 : decode cX11_tellMany 182 = .ok (.iload 6, 2) := by decide +kernel
theorem dX11_tellMany_184 : decode cX11_tellMany 184 = .ok (.iload_n 1, 1) := by decide +kernel
theorem dX11_tellMany_185 : decode cX11_tellMany 185 = .ok (.if_icmp .lt 22, 3) := by decide +kernel
theorem dX11_tellMany_188 : decode cX11_tellMany 188 = .ok (.iload_n 2, 1) := by decide +kernel
theorem dX11_tellMany_189 : decode cX11_tellMany 189 = .ok (.ifCond .le 18, 3) := by decide +kernel
theorem dX11_tellMany_192 : decode cX11_tellMany 192 = .ok (.iload 6, 2) := by decide +kernel
theorem dX11_tellMany_194 : decode cX11_tellMany 194 = .ok (.iload_n 1, 1) := by decide +kernel
theorem dX11_tellMany_195 : decode cX11_tellMany 195 = .ok (.isub, 1) := by decide +kernel
theorem dX11_tellMany_196 : decode cX11_tellMany 196 = .ok (.iconst 1, 1) := by decide +kernel
theorem dX11_tellMany_197 : decode cX11_tellMany 197 = .ok (.iadd, 1) := by decide +kernel
theorem dX11_tellMany_198 : decode cX11_tellMany 198 = .ok (.iload_n 2, 1) := by decide +kernel
theorem dX11_tellMany_199 : decode cX11_tellMany 199 = .ok (.irem, 1) := by decide +kernel
theorem dX11_tellMany_200 : decode cX11_tellMany 200 = .ok (.ifCond .ne 7, 3) := by decide +kernel
theorem dX11_tellMany_203 : decode cX11_tellMany 203 = .ok (.iconst 1, 1) := by decide +kernel
theorem dX11_tellMany_204 : decode cX11_tellMany 204 = .ok (.goto 4, 3) := by decide +kernel
theorem dX11_tellMany_207 : decode cX11_tellMany 207 = .ok (.iconst 0, 1) := by decide +kernel
theorem dX11_tellMany_208 : decode cX11_tellMany 208 = .ok (.istore 9, 2) := by decide +kernel
theorem dX11_tellMany_210 : decode cX11_tellMany 210 = .ok (.iload 9, 2) := by decide +kernel
theorem dX11_tellMany_212 : decode cX11_tellMany 212 = .ok (.ifCond .eq 10, 3) := by decide +kernel
theorem dX11_tellMany_215 : decode cX11_tellMany 215 = .ok (.iload 5, 2) := by decide +kernel
theorem dX11_tellMany_217 : decode cX11_tellMany 217 = .ok (.iload_n 2, 1) := by decide +kernel
theorem dX11_tellMany_218 : decode cX11_tellMany 218 = .ok (.if_icmp .lt 4, 3) := by decide +kernel
theorem dX11_tellMany_221 : decode cX11_tellMany 221 = .ok (.return_, 1) := by decide +kernel
theorem dX11_tellMany_222 : decode cX11_tellMany 222 = .ok (.iinc 6 1, 3) := by decide +kernel
theorem dX11_tellMany_225 : decode cX11_tellMany 225 = .ok (.goto (-168), 3) := by decide +kernel
theorem dX11_tellMany_228 : decode cX11_tellMany 228 = .ok (.return_, 1) := by decide +kernel
theorem dX11_tellSet_0 : decode cX11_tellSet 0 = .ok (.aload_n 0, 1) := by decide +kernel
theorem dX11_tellSet_1 : decode cX11_tellSet 1 = .ok (.getfield 37, 3) := by decide +kernel
theorem dX11_tellSet_4 : decode cX11_tellSet 4 = .ok (.getfield 329, 3) := by decide +kernel
theorem dX11_tellSet_7 : decode cX11_tellSet 7 = .ok (.ifnull 13, 3) := by decide +kernel
theorem dX11_tellSet_10 : decode cX11_tellSet 10 = .ok (.aload_n 0, 1) := by decide +kernel
theorem dX11_tellSet_11 : decode cX11_tellSet 11 = .ok (.getfield 37, 3) := by decide +kernel
theorem dX11_tellSet_14 : decode cX11_tellSet 14 = .ok (.getfield 337, 3) := by decide +kernel
theorem dX11_tellSet_17 : decode cX11_tellSet 17 = .ok (.ifCond .ne 4, 3) := by decide +kernel
theorem dX11_tellSet_20 : decode cX11_tellSet 20 = .ok (.return_, 1) := by decide +kernel
theorem dX11_tellSet_21 : decode cX11_tellSet 21 = .ok (.aload_n 0, 1) := by decide +kernel
theorem dX11_tellSet_22 : decode cX11_tellSet 22 = .ok (.getfield 37, 3) := by decide +kernel
theorem dX11_tellSet_25 : decode cX11_tellSet 25 = .ok (.getfield 329, 3) := by decide +kernel
theorem dX11_tellSet_28 : decode cX11_tellSet 28 = .ok (.getfield 418, 3) := by decide +kernel
theorem dX11_tellSet_31 : decode cX11_tellSet 31 = .ok (.ifCond .ne 23, 3) := by decide +kernel
theorem dX11_tellSet_34 : decode cX11_tellSet 34 = .ok (.aload_n 0, 1) := by decide +kernel
theorem dX11_tellSet_35 : decode cX11_tellSet 35 = .ok (.iconst 4, 1) := by decide +kernel
theorem dX11_tellSet_36 : decode cX11_tellSet 36 = .ok (.invokevirtual 301, 3) := by decide +kernel
theorem dX11_tellSet_39 : decode cX11_tellSet 39 = .ok (.aload_n 0, 1) := by decide +kernel
theorem dX11_tellSet_40 : decode cX11_tellSet 40 = .ok (.getfield 62, 3) := by decide +kernel
theorem dX11_tellSet_43 : decode cX11_tellSet 43 = .ok (.aload_n 0, 1) := by decide +kernel
theorem dX11_tellSet_44 : decode cX11_tellSet 44 = .ok (.bipush 6, 2) := by decide +kernel
theorem dX11_tellSet_46 : decode cX11_tellSet 46 = .ok (.invokevirtual 422, 3) := by decide +kernel
theorem dX11_tellSet_49 : decode cX11_tellSet 49 = .ok (.iconst 1, 1) := by decide +kernel
theorem dX11_tellSet_50 : decode cX11_tellSet 50 = .ok (.invokevirtual 357, 3) := by decide +kernel
theorem dX11_tellSet_53 : decode cX11_tellSet 53 = .ok (.return_, 1) := by decide +kernel
theorem dX11_tellSet_54 : decode cX11_tellSet 54 = .ok (.iconst 0, 1) := by decide +kernel
theorem dX11_tellSet_55 : decode cX11_tellSet 55 = .ok (.istore_n 1, 1) := by decide +kernel
theorem dX11_tellSet_56 : decode cX11_tellSet 56 = .ok (.iload_n 1, 1) := by decide +kernel
theorem dX11_tellSet_57 : decode cX11_tellSet 57 = .ok (.aload_n 0, 1) := by decide +kernel
theorem dX11_tellSet_58 : decode cX11_tellSet 58 = .ok (.getfield 37, 3) := by decide +kernel
theorem dX11_tellSet_61 : decode cX11_tellSet 61 = .ok (.getfield 337, 3) := by decide +kernel
theorem dX11_tellSet_64 : decode cX11_tellSet 64 = .ok (.if_icmp .ge 38, 3) := by decide +kernel
theorem dX11_tellSet_67 : decode cX11_tellSet 67 = .ok (.aload_n 0, 1) := by decide +kernel
theorem dX11_tellSet_68 : decode cX11_tellSet 68 = .ok (.getfield 55, 3) := by decide +kernel
theorem dX11_tellSet_71 : decode cX11_tellSet 71 = .ok (.iload_n 1, 1) := by decide +kernel
theorem dX11_tellSet_72 : decode cX11_tellSet 72 = .ok (.invokevirtual 426, 3) := by decide +kernel
theorem dX11_tellSet_75 : decode cX11_tellSet 75 = .ok (.istore_n 2, 1) := by decide +kernel
theorem dX11_tellSet_76 : decode cX11_tellSet 76 = .ok (.iload_n 2, 1) := by decide +kernel
theorem dX11_tellSet_77 : decode cX11_tellSet 77 = .ok (.ifCond .eq 19, 3) := by decide +kernel
theorem dX11_tellSet_80 : decode cX11_tellSet 80 = .ok (.aload_n 0, 1) := by decide +kernel
theorem dX11_tellSet_81 : decode cX11_tellSet 81 = .ok (.getfield 62, 3) := by decide +kernel
theorem dX11_tellSet_84 : decode cX11_tellSet 84 = .ok (.aload_n 0, 1) := by decide +kernel
theorem dX11_tellSet_85 : decode cX11_tellSet 85 = .ok (.iload_n 2, 1) := by decide +kernel
theorem dX11_tellSet_86 : decode cX11_tellSet 86 = .ok (.invokevirtual 422, 3) := by decide +kernel
theorem dX11_tellSet_89 : decode cX11_tellSet 89 = .ok (.iload_n 1, 1) := by decide +kernel
theorem dX11_tellSet_90 : decode cX11_tellSet 90 = .ok (.iconst 1, 1) := by decide +kernel
theorem dX11_tellSet_91 : decode cX11_tellSet 91 = .ok (.iadd, 1) := by decide +kernel
theorem dX11_tellSet_92 : decode cX11_tellSet 92 = .ok (.invokevirtual 357, 3) := by decide +kernel
theorem dX11_tellSet_95 : decode cX11_tellSet 95 = .ok (.return_, 1) := by decide +kernel
theorem dX11_tellSet_96 : decode cX11_tellSet 96 = .ok (.iinc 1 1, 3) := by decide +kernel
theorem dX11_tellSet_99 : decode cX11_tellSet 99 = .ok (.goto (-43), 3) := by decide +kernel
theorem dX11_tellSet_102 : decode cX11_tellSet 102 = .ok (.aload_n 0, 1) := by decide +kernel
theorem dX11_tellSet_103 : decode cX11_tellSet 103 = .ok (.getfield 62, 3) := by decide +kernel
theorem dX11_tellSet_106 : decode cX11_tellSet 106 = .ok (.aload_n 0, 1) := by decide +kernel
theorem dX11_tellSet_107 : decode cX11_tellSet 107 = .ok (.getfield 37, 3) := by decide +kernel
theorem dX11_tellSet_110 : decode cX11_tellSet 110 = .ok (.invokevirtual 429, 3) := by decide +kernel
theorem dX11_tellSet_113 : decode cX11_tellSet 113 = .ok (.return_, 1) := by decide +kernel
theorem dX11_errorInVersion_0 : decode cX11_errorInVersion 0 = .ok (.aload_n 0, 1) := by decide +kernel
theorem dX11_errorInVersion_1 : decode cX11_errorInVersion 1 = .ok (.getfield 37, 3) := by decide +kernel
theorem dX11_errorInVersion_4 : decode cX11_errorInVersion 4 = .ok (.getfield 351, 3) := by decide +kernel
theorem dX11_errorInVersion_7 : decode cX11_errorInVersion 7 = .ok (.ifCond .eq 5, 3) := by decide +kernel
theorem dX11_errorInVersion_10 : decode cX11_errorInVersion 10 = .ok (.iload_n 1, 1) := by decide +kernel
theorem dX11_errorInVersion_11 : decode cX11_errorInVersion 11 = .ok (.ireturn, 1) := by decide +kernel
theorem dX11_errorInVersion_12 : decode cX11_errorInVersion 12 = .ok (.iload_n 1, 1) := by decide +kernel
theorem dX11_errorInVersion_13 : decode cX11_errorInVersion 13 = .ok (.tableswitch 47 7 13 #[43, 43, 47, 43, 43, 43, 45], 43) := by decide +kernel
theorem dX11_errorInVersion_56 : decode cX11_errorInVersion 56 = .ok (.iconst 3, 1) := by decide +kernel
theorem dX11_errorInVersion_57 : decode cX11_errorInVersion 57 = .ok (.ireturn, 1) := by decide +kernel
theorem dX11_errorInVersion_58 : decode cX11_errorInVersion 58 = .ok (.iconst 5, 1) := by decide +kernel
theorem dX11_errorInVersion_59 : decode cX11_errorInVersion 59 = .ok (.ireturn, 1) := by decide +kernel
theorem dX11_errorInVersion_60 : decode cX11_errorInVersion 60 = .ok (.iconst 2, 1) := by decide +kernel
theorem dX11_errorInVersion_61 : decode cX11_errorInVersion 61 = .ok (.ireturn, 1) := by decide +kernel
theorem dX11_give_0 : decode cX11_give 0 = .ok (.aload_n 0, 1) := by decide +kernel
theorem dX11_give_1 : decode cX11_give 1 = .ok (.getfield 62, 3) := by decide +kernel
theorem dX11_give_4 : decode cX11_give 4 = .ok (.invokevirtual 433, 3) := by decide +kernel
theorem dX11_give_7 : decode cX11_give 7 = .ok (.ifCond .ne 30, 3) := by decide +kernel
theorem dX11_give_10 : decode cX11_give 10 = .ok (.aload_n 0, 1) := by decide +kernel
theorem dX11_give_11 : decode cX11_give 11 = .ok (.getfield 62, 3) := by decide +kernel
theorem dX11_give_14 : decode cX11_give 14 = .ok (.aload_n 0, 1) := by decide +kernel
theorem dX11_give_15 : decode cX11_give 15 = .ok (.getfield 37, 3) := by decide +kernel
theorem dX11_give_18 : decode cX11_give 18 = .ok (.invokevirtual 436, 3) := by decide +kernel
theorem dX11_give_21 : decode cX11_give 21 = .ok (.aload_n 0, 1) := by decide +kernel
theorem dX11_give_22 : decode cX11_give 22 = .ok (.getfield 91, 3) := by decide +kernel
theorem dX11_give_25 : decode cX11_give 25 = .ok (.if_icmp .le 12, 3) := by decide +kernel
theorem dX11_give_28 : decode cX11_give 28 = .ok (.aload_n 0, 1) := by decide +kernel
theorem dX11_give_29 : decode cX11_give 29 = .ok (.getfield 62, 3) := by decide +kernel
theorem dX11_give_32 : decode cX11_give 32 = .ok (.iconst 1, 1) := by decide +kernel
theorem dX11_give_33 : decode cX11_give 33 = .ok (.iconst 0, 1) := by decide +kernel
theorem dX11_give_34 : decode cX11_give 34 = .ok (.invokevirtual 357, 3) := by decide +kernel
theorem dX11_give_37 : decode cX11_give 37 = .ok (.aload_n 0, 1) := by decide +kernel
theorem dX11_give_38 : decode cX11_give 38 = .ok (.getfield 62, 3) := by decide +kernel
theorem dX11_give_41 : decode cX11_give 41 = .ok (.invokevirtual 433, 3) := by decide +kernel
theorem dX11_give_44 : decode cX11_give 44 = .ok (.ifCond .eq 7, 3) := by decide +kernel
theorem dX11_give_47 : decode cX11_give 47 = .ok (.iconst 1, 1) := by decide +kernel
theorem dX11_give_48 : decode cX11_give 48 = .ok (.goto 4, 3) := by decide +kernel
theorem dX11_give_51 : decode cX11_give 51 = .ok (.iconst 0, 1) := by decide +kernel
theorem dX11_give_52 : decode cX11_give 52 = .ok (.istore_n 1, 1) := by decide +kernel
theorem dX11_give_53 : decode cX11_give 53 = .ok (.iload_n 1, 1) := by decide +kernel
theorem dX11_give_54 : decode cX11_give 54 = .ok (.ifCond .eq 35, 3) := by decide +kernel
theorem dX11_give_57 : decode cX11_give 57 = .ok (.aload_n 0, 1) := by decide +kernel
theorem dX11_give_58 : decode cX11_give 58 = .ok (.getfield 62, 3) := by decide +kernel
theorem dX11_give_61 : decode cX11_give 61 = .ok (.invokevirtual 433, 3) := by decide +kernel
theorem dX11_give_64 : decode cX11_give 64 = .ok (.iconst 1, 1) := by decide +kernel
theorem dX11_give_65 : decode cX11_give 65 = .ok (.if_icmp .ne 13, 3) := by decide +kernel
theorem dX11_give_68 : decode cX11_give 68 = .ok (.aload_n 0, 1) := by decide +kernel
theorem dX11_give_69 : decode cX11_give 69 = .ok (.getfield 37, 3) := by decide +kernel
theorem dX11_give_72 : decode cX11_give 72 = .ok (.getfield 351, 3) := by decide +kernel
theorem dX11_give_75 : decode cX11_give 75 = .ok (.ifCond .ne 14, 3) := by decide +kernel
theorem dX11_give_78 : decode cX11_give 78 = .ok (.aload_n 0, 1) := by decide +kernel
theorem dX11_give_79 : decode cX11_give 79 = .ok (.getfield 62, 3) := by decide +kernel
theorem dX11_give_82 : decode cX11_give 82 = .ok (.aload_n 0, 1) := by decide +kernel
theorem dX11_give_83 : decode cX11_give 83 = .ok (.getfield 37, 3) := by decide +kernel
theorem dX11_give_86 : decode cX11_give 86 = .ok (.invokevirtual 429, 3) := by decide +kernel
theorem dX11_give_89 : decode cX11_give 89 = .ok (.aload_n 0, 1) := by decide +kernel
theorem dX11_give_90 : decode cX11_give 90 = .ok (.getfield 62, 3) := by decide +kernel
theorem dX11_give_93 : decode cX11_give 93 = .ok (.aload_n 0, 1) := by decide +kernel
theorem dX11_give_94 : decode cX11_give 94 = .ok (.getfield 37, 3) := by decide +kernel
theorem dX11_give_97 : decode cX11_give 97 = .ok (.invokevirtual 436, 3) := by decide +kernel
theorem dX11_give_100 : decode cX11_give 100 = .ok (.aload_n 0, 1) := by decide +kernel
theorem dX11_give_101 : decode cX11_give 101 = .ok (.getfield 91, 3) := by decide +kernel
theorem dX11_give_104 : decode cX11_give 104 = .ok (.if_icmp .le 10, 3) := by decide +kernel
theorem dX11_give_107 : decode cX11_give 107 = .ok (.aload_n 0, 1) := by decide +kernel
theorem dX11_give_108 : decode cX11_give 108 = .ok (.iconst 5, 1) := by decide +kernel
theorem dX11_give_109 : decode cX11_give 109 = .ok (.invokevirtual 301, 3) := by decide +kernel
theorem dX11_give_112 : decode cX11_give 112 = .ok (.iconst 0, 1) := by decide +kernel
theorem dX11_give_113 : decode cX11_give 113 = .ok (.ireturn, 1) := by decide +kernel
theorem dX11_give_114 : decode cX11_give 114 = .ok (.iload_n 1, 1) := by decide +kernel
theorem dX11_give_115 : decode cX11_give 115 = .ok (.ifCond .ne 23, 3) := by decide +kernel
theorem dX11_give_118 : decode cX11_give 118 = .ok (.aload_n 0, 1) := by decide +kernel
theorem dX11_give_119 : decode cX11_give 119 = .ok (.getfield 37, 3) := by decide +kernel
theorem dX11_give_122 : decode cX11_give 122 = .ok (.getfield 304, 3) := by decide +kernel
theorem dX11_give_125 : decode cX11_give 125 = .ok (.sipush 163, 3) := by decide +kernel
theorem dX11_give_128 : decode cX11_give 128 = .ok (.if_icmp .ne 10, 3) := by decide +kernel
theorem dX11_give_131 : decode cX11_give 131 = .ok (.aload_n 0, 1) := by decide +kernel
theorem dX11_give_132 : decode cX11_give 132 = .ok (.getfield 55, 3) := by decide +kernel
theorem dX11_give_135 : decode cX11_give 135 = .ok (.invokevirtual 439, 3) := by decide +kernel
theorem dX11_give_138 : decode cX11_give 138 = .ok (.aload_n 0, 1) := by decide +kernel
theorem dX11_give_139 : decode cX11_give 139 = .ok (.getfield 62, 3) := by decide +kernel
theorem dX11_give_142 : decode cX11_give 142 = .ok (.aload_n 0, 1) := by decide +kernel
theorem dX11_give_143 : decode cX11_give 143 = .ok (.getfield 37, 3) := by decide +kernel
theorem dX11_give_146 : decode cX11_give 146 = .ok (.invokevirtual 442, 3) := by decide +kernel
theorem dX11_give_149 : decode cX11_give 149 = .ok (.aload_n 0, 1) := by decide +kernel
theorem dX11_give_150 : decode cX11_give 150 = .ok (.bipush 6, 2) := by decide +kernel
theorem dX11_give_152 : decode cX11_give 152 = .ok (.invokevirtual 301, 3) := by decide +kernel
theorem dX11_give_155 : decode cX11_give 155 = .ok (.iload_n 1, 1) := by decide +kernel
theorem dX11_give_156 : decode cX11_give 156 = .ok (.ifCond .eq 9, 3) := by decide +kernel
theorem dX11_give_159 : decode cX11_give 159 = .ok (.aload_n 0, 1) := by decide +kernel
theorem dX11_give_160 : decode cX11_give 160 = .ok (.bipush 7, 2) := by decide +kernel
theorem dX11_give_162 : decode cX11_give 162 = .ok (.invokevirtual 301, 3) := by decide +kernel
theorem dX11_give_165 : decode cX11_give 165 = .ok (.aload_n 0, 1) := by decide +kernel
theorem dX11_give_166 : decode cX11_give 166 = .ok (.getfield 62, 3) := by decide +kernel
theorem dX11_give_169 : decode cX11_give 169 = .ok (.getfield 445, 3) := by decide +kernel
theorem dX11_give_172 : decode cX11_give 172 = .ok (.invokevirtual 98, 3) := by decide +kernel
theorem dX11_give_175 : decode cX11_give 175 = .ok (.ireturn, 1) := by decide +kernel
theorem dX11_answer_0 : decode cX11_answer 0 = .ok (.aload_n 0, 1) := by decide +kernel
theorem dX11_answer_1 : decode cX11_answer 1 = .ok (.getfield 62, 3) := by decide +kernel
theorem dX11_answer_4 : decode cX11_answer 4 = .ok (.getfield 445, 3) := by decide +kernel
theorem dX11_answer_7 : decode cX11_answer 7 = .ok (.iload_n 1, 1) := by decide +kernel
theorem dX11_answer_8 : decode cX11_answer 8 = .ok (.invokevirtual 375, 3) := by decide +kernel
theorem dX11_answer_11 : decode cX11_answer 11 = .ok (.l2i, 1) := by decide +kernel
theorem dX11_answer_12 : decode cX11_answer 12 = .ok (.ireturn, 1) := by decide +kernel
theorem dX11_count_0 : decode cX11_count 0 = .ok (.iload_n 1, 1) := by decide +kernel
theorem dX11_count_1 : decode cX11_count 1 = .ok (.lookupswitch 56 #[(0, 35), (8, 43), (9, 48)], 35) := by decide +kernel
theorem dX11_count_36 : decode cX11_count 36 = .ok (.aload_n 0, 1) := by decide +kernel
theorem dX11_count_37 : decode cX11_count 37 = .ok (.getfield 24, 3) := by decide +kernel
theorem dX11_count_40 : decode cX11_count 40 = .ok (.invokevirtual 138, 3) := by decide +kernel
theorem dX11_count_43 : decode cX11_count 43 = .ok (.ireturn, 1) := by decide +kernel
theorem dX11_count_44 : decode cX11_count 44 = .ok (.aload_n 0, 1) := by decide +kernel
theorem dX11_count_45 : decode cX11_count 45 = .ok (.getfield 269, 3) := by decide +kernel
theorem dX11_count_48 : decode cX11_count 48 = .ok (.ireturn, 1) := by decide +kernel
theorem dX11_count_49 : decode cX11_count 49 = .ok (.aload_n 0, 1) := by decide +kernel
theorem dX11_count_50 : decode cX11_count 50 = .ok (.getfield 24, 3) := by decide +kernel
theorem dX11_count_53 : decode cX11_count 53 = .ok (.invokevirtual 153, 3) := by decide +kernel
theorem dX11_count_56 : decode cX11_count 56 = .ok (.ireturn, 1) := by decide +kernel
theorem dX11_count_57 : decode cX11_count 57 = .ok (.iload_n 1, 1) := by decide +kernel
theorem dX11_count_58 : decode cX11_count 58 = .ok (.ifCond .le 21, 3) := by decide +kernel
theorem dX11_count_61 : decode cX11_count 61 = .ok (.iload_n 1, 1) := by decide +kernel
theorem dX11_count_62 : decode cX11_count 62 = .ok (.aload_n 0, 1) := by decide +kernel
theorem dX11_count_63 : decode cX11_count 63 = .ok (.getfield 66, 3) := by decide +kernel
theorem dX11_count_66 : decode cX11_count 66 = .ok (.arraylength, 1) := by decide +kernel
theorem dX11_count_67 : decode cX11_count 67 = .ok (.if_icmp .ge 12, 3) := by decide +kernel
theorem dX11_count_70 : decode cX11_count 70 = .ok (.aload_n 0, 1) := by decide +kernel
theorem dX11_count_71 : decode cX11_count 71 = .ok (.getfield 66, 3) := by decide +kernel
theorem dX11_count_74 : decode cX11_count 74 = .ok (.iload_n 1, 1) := by decide +kernel
theorem dX11_count_75 : decode cX11_count 75 = .ok (.iaload, 1) := by decide +kernel
theorem dX11_count_76 : decode cX11_count 76 = .ok (.goto 5, 3) := by decide +kernel
theorem dX11_count_79 : decode cX11_count 79 = .ok (.bipush (-2), 2) := by decide +kernel
theorem dX11_count_81 : decode cX11_count 81 = .ok (.ireturn, 1) := by decide +kernel
theorem dX11_rows_0 : decode cX11_rows 0 = .ok (.aload_n 0, 1) := by decide +kernel
theorem dX11_rows_1 : decode cX11_rows 1 = .ok (.getfield 24, 3) := by decide +kernel
theorem dX11_rows_4 : decode cX11_rows 4 = .ok (.iload_n 1, 1) := by decide +kernel
theorem dX11_rows_5 : decode cX11_rows 5 = .ok (.invokevirtual 163, 3) := by decide +kernel
theorem dX11_rows_8 : decode cX11_rows 8 = .ok (.astore_n 2, 1) := by decide +kernel
theorem dX11_rows_9 : decode cX11_rows 9 = .ok (.aload_n 2, 1) := by decide +kernel
theorem dX11_rows_10 : decode cX11_rows 10 = .ok (.ifnonnull 7, 3) := by decide +kernel
theorem dX11_rows_13 : decode cX11_rows 13 = .ok (.iconst (-1), 1) := by decide +kernel
theorem dX11_rows_14 : decode cX11_rows 14 = .ok (.goto 7, 3) := by decide +kernel
theorem dX11_rows_17 : decode cX11_rows 17 = .ok (.aload_n 2, 1) := by decide +kernel
theorem dX11_rows_18 : decode cX11_rows 18 = .ok (.invokevirtual 192, 3) := by decide +kernel
theorem dX11_rows_21 : decode cX11_rows 21 = .ok (.ireturn, 1) := by decide +kernel
theorem dX11_told_0 : decode cX11_told 0 = .ok (.aload_n 0, 1) := by decide +kernel
theorem dX11_told_1 : decode cX11_told 1 = .ok (.getfield 24, 3) := by decide +kernel
theorem dX11_told_4 : decode cX11_told 4 = .ok (.iload_n 1, 1) := by decide +kernel
theorem dX11_told_5 : decode cX11_told 5 = .ok (.invokevirtual 185, 3) := by decide +kernel
theorem dX11_told_8 : decode cX11_told 8 = .ok (.astore_n 3, 1) := by decide +kernel
theorem dX11_told_9 : decode cX11_told 9 = .ok (.aload_n 3, 1) := by decide +kernel
theorem dX11_told_10 : decode cX11_told 10 = .ok (.ifnonnull 7, 3) := by decide +kernel
theorem dX11_told_13 : decode cX11_told 13 = .ok (.aconst_null, 1) := by decide +kernel
theorem dX11_told_14 : decode cX11_told 14 = .ok (.goto 9, 3) := by decide +kernel
theorem dX11_told_17 : decode cX11_told 17 = .ok (.aload_n 3, 1) := by decide +kernel
theorem dX11_told_18 : decode cX11_told 18 = .ok (.iload_n 2, 1) := by decide +kernel
theorem dX11_told_19 : decode cX11_told 19 = .ok (.i2l, 1) := by decide +kernel
theorem dX11_told_20 : decode cX11_told 20 = .ok (.invokevirtual 224, 3) := by decide +kernel
theorem dX11_told_23 : decode cX11_told 23 = .ok (.astore 4, 2) := by decide +kernel
theorem dX11_told_25 : decode cX11_told 25 = .ok (.aload 4, 2) := by decide +kernel
theorem dX11_told_27 : decode cX11_told 27 = .ok (.ifnonnull 7, 3) := by decide +kernel
theorem dX11_told_30 : decode cX11_told 30 = .ok (.ldc2_w 108, 3) := by decide +kernel
theorem dX11_told_33 : decode cX11_told 33 = .ok (.lreturn, 1) := by decide +kernel
theorem dX11_told_34 : decode cX11_told 34 = .ok (.aload 4, 2) := by decide +kernel
theorem dX11_told_36 : decode cX11_told 36 = .ok (.invokevirtual 228, 3) := by decide +kernel
theorem dX11_told_39 : decode cX11_told 39 = .ok (.ifCond .eq 13, 3) := by decide +kernel
theorem dX11_told_42 : decode cX11_told 42 = .ok (.aload 4, 2) := by decide +kernel
theorem dX11_told_44 : decode cX11_told 44 = .ok (.getfield 254, 3) := by decide +kernel
theorem dX11_told_47 : decode cX11_told 47 = .ok (.invokevirtual 98, 3) := by decide +kernel
theorem dX11_told_50 : decode cX11_told 50 = .ok (.i2l, 1) := by decide +kernel
theorem dX11_told_51 : decode cX11_told 51 = .ok (.lreturn, 1) := by decide +kernel
theorem dX11_told_52 : decode cX11_told 52 = .ok (.aload_n 3, 1) := by decide +kernel
theorem dX11_told_53 : decode cX11_told 53 = .ok (.invokevirtual 378, 3) := by decide +kernel
theorem dX11_told_56 : decode cX11_told 56 = .ok (.ifCond .eq 13, 3) := by decide +kernel
theorem dX11_told_59 : decode cX11_told 59 = .ok (.aload_n 0, 1) := by decide +kernel
theorem dX11_told_60 : decode cX11_told 60 = .ok (.getfield 78, 3) := by decide +kernel
theorem dX11_told_63 : decode cX11_told 63 = .ok (.getfield 238, 3) := by decide +kernel
theorem dX11_told_66 : decode cX11_told 66 = .ok (.goto 8, 3) := by decide +kernel
theorem dX11_told_69 : decode cX11_told 69 = .ok (.aload 4, 2) := by decide +kernel
theorem dX11_told_71 : decode cX11_told 71 = .ok (.getfield 238, 3) := by decide +kernel
theorem dX11_told_74 : decode cX11_told 74 = .ok (.lreturn, 1) := by decide +kernel
theorem dX11_part_0 : decode cX11_part 0 = .ok (.aload_n 0, 1) := by decide +kernel
theorem dX11_part_1 : decode cX11_part 1 = .ok (.getfield 24, 3) := by decide +kernel
theorem dX11_part_4 : decode cX11_part 4 = .ok (.iload_n 1, 1) := by decide +kernel
theorem dX11_part_5 : decode cX11_part 5 = .ok (.invokevirtual 185, 3) := by decide +kernel
theorem dX11_part_8 : decode cX11_part 8 = .ok (.astore 4, 2) := by decide +kernel
theorem dX11_part_10 : decode cX11_part 10 = .ok (.aload 4, 2) := by decide +kernel
theorem dX11_part_12 : decode cX11_part 12 = .ok (.ifnonnull 7, 3) := by decide +kernel
theorem dX11_part_15 : decode cX11_part 15 = .ok (.aconst_null, 1) := by decide +kernel
theorem dX11_part_16 : decode cX11_part 16 = .ok (.goto 10, 3) := by decide +kernel
theorem dX11_part_19 : decode cX11_part 19 = .ok (.aload 4, 2) := by decide +kernel
theorem dX11_part_21 : decode cX11_part 21 = .ok (.iload_n 2, 1) := by decide +kernel
theorem dX11_part_22 : decode cX11_part 22 = .ok (.i2l, 1) := by decide +kernel
theorem dX11_part_23 : decode cX11_part 23 = .ok (.invokevirtual 224, 3) := by decide +kernel
theorem dX11_part_26 : decode cX11_part 26 = .ok (.astore 5, 2) := by decide +kernel
theorem dX11_part_28 : decode cX11_part 28 = .ok (.aload 5, 2) := by decide +kernel
theorem dX11_part_30 : decode cX11_part 30 = .ok (.ifnonnull 9, 3) := by decide +kernel
theorem dX11_part_33 : decode cX11_part 33 = .ok (.ldc2_w 108, 3) := by decide +kernel
theorem dX11_part_36 : decode cX11_part 36 = .ok (.goto 12, 3) := by decide +kernel
theorem dX11_part_39 : decode cX11_part 39 = .ok (.aload 5, 2) := by decide +kernel
theorem dX11_part_41 : decode cX11_part 41 = .ok (.getfield 254, 3) := by decide +kernel
theorem dX11_part_44 : decode cX11_part 44 = .ok (.iload_n 3, 1) := by decide +kernel
theorem dX11_part_45 : decode cX11_part 45 = .ok (.invokevirtual 375, 3) := by decide +kernel
theorem dX11_part_48 : decode cX11_part 48 = .ok (.lreturn, 1) := by decide +kernel
theorem dX12_init_0 : decode cX12_init 0 = .ok (.aload_n 0, 1) := by decide +kernel
theorem dX12_init_1 : decode cX12_init 1 = .ok (.invokespecial 1, 3) := by decide +kernel
theorem dX12_init_4 : decode cX12_init 4 = .ok (.aload_n 0, 1) := by decide +kernel
theorem dX12_init_5 : decode cX12_init 5 = .ok (.sipush 1200, 3) := by decide +kernel
theorem dX12_init_8 : decode cX12_init 8 = .ok (.newarray .byte, 2) := by decide +kernel
theorem dX12_init_10 : decode cX12_init 10 = .ok (.putfield 7, 3) := by decide +kernel
theorem dX12_init_13 : decode cX12_init 13 = .ok (.aload_n 0, 1) := by decide +kernel
theorem dX12_init_14 : decode cX12_init 14 = .ok (.bipush 16, 2) := by decide +kernel
theorem dX12_init_16 : decode cX12_init 16 = .ok (.newarray .long, 2) := by decide +kernel
theorem dX12_init_18 : decode cX12_init 18 = .ok (.putfield 13, 3) := by decide +kernel
theorem dX12_init_21 : decode cX12_init 21 = .ok (.aload_n 0, 1) := by decide +kernel
theorem dX12_init_22 : decode cX12_init 22 = .ok (.sipush 484, 3) := by decide +kernel
theorem dX12_init_25 : decode cX12_init 25 = .ok (.putfield 17, 3) := by decide +kernel
theorem dX12_init_28 : decode cX12_init 28 = .ok (.aload_n 0, 1) := by decide +kernel
theorem dX12_init_29 : decode cX12_init 29 = .ok (.bipush 8, 2) := by decide +kernel
theorem dX12_init_31 : decode cX12_init 31 = .ok (.newarray .int, 2) := by decide +kernel
theorem dX12_init_33 : decode cX12_init 33 = .ok (.putfield 21, 3) := by decide +kernel
theorem dX12_init_36 : decode cX12_init 36 = .ok (.aload_n 0, 1) := by decide +kernel
theorem dX12_init_37 : decode cX12_init 37 = .ok (.sipush 640, 3) := by decide +kernel
theorem dX12_init_40 : decode cX12_init 40 = .ok (.newarray .long, 2) := by decide +kernel
theorem dX12_init_42 : decode cX12_init 42 = .ok (.putfield 25, 3) := by decide +kernel
theorem dX12_init_45 : decode cX12_init 45 = .ok (.aload_n 0, 1) := by decide +kernel
theorem dX12_init_46 : decode cX12_init 46 = .ok (.bipush 40, 2) := by decide +kernel
theorem dX12_init_48 : decode cX12_init 48 = .ok (.newarray .int, 2) := by decide +kernel
theorem dX12_init_50 : decode cX12_init 50 = .ok (.putfield 28, 3) := by decide +kernel
theorem dX12_init_53 : decode cX12_init 53 = .ok (.aload_n 0, 1) := by decide +kernel
theorem dX12_init_54 : decode cX12_init 54 = .ok (.bipush 40, 2) := by decide +kernel
theorem dX12_init_56 : decode cX12_init 56 = .ok (.newarray .int, 2) := by decide +kernel
theorem dX12_init_58 : decode cX12_init 58 = .ok (.putfield 31, 3) := by decide +kernel
theorem dX12_init_61 : decode cX12_init 61 = .ok (.aload_n 0, 1) := by decide +kernel
theorem dX12_init_62 : decode cX12_init 62 = .ok (.bipush 40, 2) := by decide +kernel
theorem dX12_init_64 : decode cX12_init 64 = .ok (.newarray .int, 2) := by decide +kernel
theorem dX12_init_66 : decode cX12_init 66 = .ok (.putfield 34, 3) := by decide +kernel
theorem dX12_init_69 : decode cX12_init 69 = .ok (.aload_n 0, 1) := by decide +kernel
theorem dX12_init_70 : decode cX12_init 70 = .ok (.bipush 40, 2) := by decide +kernel
theorem dX12_init_72 : decode cX12_init 72 = .ok (.newarray .long, 2) := by decide +kernel
theorem dX12_init_74 : decode cX12_init 74 = .ok (.putfield 37, 3) := by decide +kernel
theorem dX12_init_77 : decode cX12_init 77 = .ok (.aload_n 0, 1) := by decide +kernel
theorem dX12_init_78 : decode cX12_init 78 = .ok (.bipush 40, 2) := by decide +kernel
theorem dX12_init_80 : decode cX12_init 80 = .ok (.newarray .long, 2) := by decide +kernel
theorem dX12_init_82 : decode cX12_init 82 = .ok (.putfield 40, 3) := by decide +kernel
theorem dX12_init_85 : decode cX12_init 85 = .ok (.aload_n 0, 1) := by decide +kernel
theorem dX12_init_86 : decode cX12_init 86 = .ok (.bipush 40, 2) := by decide +kernel
theorem dX12_init_88 : decode cX12_init 88 = .ok (.newarray .int, 2) := by decide +kernel
theorem dX12_init_90 : decode cX12_init 90 = .ok (.putfield 43, 3) := by decide +kernel
theorem dX12_init_93 : decode cX12_init 93 = .ok (.aload_n 0, 1) := by decide +kernel
theorem dX12_init_94 : decode cX12_init 94 = .ok (.bipush 40, 2) := by decide +kernel
theorem dX12_init_96 : decode cX12_init 96 = .ok (.newarray .boolean, 2) := by decide +kernel
theorem dX12_init_98 : decode cX12_init 98 = .ok (.putfield 46, 3) := by decide +kernel
theorem dX12_init_101 : decode cX12_init 101 = .ok (.aload_n 0, 1) := by decide +kernel
theorem dX12_init_102 : decode cX12_init 102 = .ok (.sipush 640, 3) := by decide +kernel
theorem dX12_init_105 : decode cX12_init 105 = .ok (.newarray .long, 2) := by decide +kernel
theorem dX12_init_107 : decode cX12_init 107 = .ok (.putfield 50, 3) := by decide +kernel
theorem dX12_init_110 : decode cX12_init 110 = .ok (.aload_n 0, 1) := by decide +kernel
theorem dX12_init_111 : decode cX12_init 111 = .ok (.sipush 25600, 3) := by decide +kernel
theorem dX12_init_114 : decode cX12_init 114 = .ok (.newarray .byte, 2) := by decide +kernel
theorem dX12_init_116 : decode cX12_init 116 = .ok (.putfield 53, 3) := by decide +kernel
theorem dX12_init_119 : decode cX12_init 119 = .ok (.aload_n 0, 1) := by decide +kernel
theorem dX12_init_120 : decode cX12_init 120 = .ok (.sipush 640, 3) := by decide +kernel
theorem dX12_init_123 : decode cX12_init 123 = .ok (.newarray .int, 2) := by decide +kernel
theorem dX12_init_125 : decode cX12_init 125 = .ok (.putfield 56, 3) := by decide +kernel
theorem dX12_init_128 : decode cX12_init 128 = .ok (.aload_n 0, 1) := by decide +kernel
theorem dX12_init_129 : decode cX12_init 129 = .ok (.sipush 10240, 3) := by decide +kernel
theorem dX12_init_132 : decode cX12_init 132 = .ok (.newarray .long, 2) := by decide +kernel
theorem dX12_init_134 : decode cX12_init 134 = .ok (.putfield 59, 3) := by decide +kernel
theorem dX12_init_137 : decode cX12_init 137 = .ok (.aload_n 0, 1) := by decide +kernel
theorem dX12_init_138 : decode cX12_init 138 = .ok (.sipush 640, 3) := by decide +kernel
theorem dX12_init_141 : decode cX12_init 141 = .ok (.newarray .int, 2) := by decide +kernel
theorem dX12_init_143 : decode cX12_init 143 = .ok (.putfield 62, 3) := by decide +kernel
theorem dX12_init_146 : decode cX12_init 146 = .ok (.aload_n 0, 1) := by decide +kernel
theorem dX12_init_147 : decode cX12_init 147 = .ok (.bipush 64, 2) := by decide +kernel
theorem dX12_init_149 : decode cX12_init 149 = .ok (.newarray .long, 2) := by decide +kernel
theorem dX12_init_151 : decode cX12_init 151 = .ok (.putfield 65, 3) := by decide +kernel
theorem dX12_init_154 : decode cX12_init 154 = .ok (.aload_n 0, 1) := by decide +kernel
theorem dX12_init_155 : decode cX12_init 155 = .ok (.iconst 4, 1) := by decide +kernel
theorem dX12_init_156 : decode cX12_init 156 = .ok (.newarray .int, 2) := by decide +kernel
theorem dX12_init_158 : decode cX12_init 158 = .ok (.putfield 68, 3) := by decide +kernel
theorem dX12_init_161 : decode cX12_init 161 = .ok (.aload_n 0, 1) := by decide +kernel
theorem dX12_init_162 : decode cX12_init 162 = .ok (.iconst 4, 1) := by decide +kernel
theorem dX12_init_163 : decode cX12_init 163 = .ok (.newarray .int, 2) := by decide +kernel
theorem dX12_init_165 : decode cX12_init 165 = .ok (.putfield 71, 3) := by decide +kernel
theorem dX12_init_168 : decode cX12_init 168 = .ok (.aload_n 0, 1) := by decide +kernel
theorem dX12_init_169 : decode cX12_init 169 = .ok (.iconst 4, 1) := by decide +kernel
theorem dX12_init_170 : decode cX12_init 170 = .ok (.newarray .int, 2) := by decide +kernel
theorem dX12_init_172 : decode cX12_init 172 = .ok (.putfield 74, 3) := by decide +kernel
theorem dX12_init_175 : decode cX12_init 175 = .ok (.aload_n 0, 1) := by decide +kernel
theorem dX12_init_176 : decode cX12_init 176 = .ok (.bipush 64, 2) := by decide +kernel
theorem dX12_init_178 : decode cX12_init 178 = .ok (.newarray .int, 2) := by decide +kernel
theorem dX12_init_180 : decode cX12_init 180 = .ok (.putfield 77, 3) := by decide +kernel
theorem dX12_init_183 : decode cX12_init 183 = .ok (.aload_n 0, 1) := by decide +kernel
theorem dX12_init_184 : decode cX12_init 184 = .ok (.sipush 320, 3) := by decide +kernel
theorem dX12_init_187 : decode cX12_init 187 = .ok (.newarray .byte, 2) := by decide +kernel
theorem dX12_init_189 : decode cX12_init 189 = .ok (.putfield 80, 3) := by decide +kernel
theorem dX12_init_192 : decode cX12_init 192 = .ok (.aload_n 0, 1) := by decide +kernel
theorem dX12_init_193 : decode cX12_init 193 = .ok (.bipush 8, 2) := by decide +kernel
theorem dX12_init_195 : decode cX12_init 195 = .ok (.newarray .int, 2) := by decide +kernel
theorem dX12_init_197 : decode cX12_init 197 = .ok (.putfield 83, 3) := by decide +kernel
theorem dX12_init_200 : decode cX12_init 200 = .ok (.aload_n 0, 1) := by decide +kernel
theorem dX12_init_201 : decode cX12_init 201 = .ok (.bipush 8, 2) := by decide +kernel
theorem dX12_init_203 : decode cX12_init 203 = .ok (.newarray .boolean, 2) := by decide +kernel
theorem dX12_init_205 : decode cX12_init 205 = .ok (.putfield 86, 3) := by decide +kernel
theorem dX12_init_208 : decode cX12_init 208 = .ok (.aload_n 0, 1) := by decide +kernel
theorem dX12_init_209 : decode cX12_init 209 = .ok (.bipush 8, 2) := by decide +kernel
theorem dX12_init_211 : decode cX12_init 211 = .ok (.newarray .int, 2) := by decide +kernel
theorem dX12_init_213 : decode cX12_init 213 = .ok (.putfield 89, 3) := by decide +kernel
theorem dX12_init_216 : decode cX12_init 216 = .ok (.aload_n 0, 1) := by decide +kernel
theorem dX12_init_217 : decode cX12_init 217 = .ok (.sipush 1024, 3) := by decide +kernel
theorem dX12_init_220 : decode cX12_init 220 = .ok (.newarray .long, 2) := by decide +kernel
theorem dX12_init_222 : decode cX12_init 222 = .ok (.putfield 92, 3) := by decide +kernel
theorem dX12_init_225 : decode cX12_init 225 = .ok (.aload_n 0, 1) := by decide +kernel
theorem dX12_init_226 : decode cX12_init 226 = .ok (.bipush 64, 2) := by decide +kernel
theorem dX12_init_228 : decode cX12_init 228 = .ok (.newarray .int, 2) := by decide +kernel
theorem dX12_init_230 : decode cX12_init 230 = .ok (.putfield 95, 3) := by decide +kernel
theorem dX12_init_233 : decode cX12_init 233 = .ok (.aload_n 0, 1) := by decide +kernel
theorem dX12_init_234 : decode cX12_init 234 = .ok (.bipush 64, 2) := by decide +kernel
theorem dX12_init_236 : decode cX12_init 236 = .ok (.newarray .boolean, 2) := by decide +kernel
theorem dX12_init_238 : decode cX12_init 238 = .ok (.putfield 98, 3) := by decide +kernel
theorem dX12_init_241 : decode cX12_init 241 = .ok (.aload_n 0, 1) := by decide +kernel
theorem dX12_init_242 : decode cX12_init 242 = .ok (.sipush 960, 3) := by decide +kernel
theorem dX12_init_245 : decode cX12_init 245 = .ok (.newarray .long, 2) := by decide +kernel
theorem dX12_init_247 : decode cX12_init 247 = .ok (.putfield 101, 3) := by decide +kernel
theorem dX12_init_250 : decode cX12_init 250 = .ok (.aload_n 0, 1) := by decide +kernel
theorem dX12_init_251 : decode cX12_init 251 = .ok (.bipush 60, 2) := by decide +kernel
theorem dX12_init_253 : decode cX12_init 253 = .ok (.newarray .int, 2) := by decide +kernel
theorem dX12_init_255 : decode cX12_init 255 = .ok (.putfield 104, 3) := by decide +kernel
theorem dX12_init_258 : decode cX12_init 258 = .ok (.aload_n 0, 1) := by decide +kernel
theorem dX12_init_259 : decode cX12_init 259 = .ok (.bipush 60, 2) := by decide +kernel
theorem dX12_init_261 : decode cX12_init 261 = .ok (.newarray .int, 2) := by decide +kernel
theorem dX12_init_263 : decode cX12_init 263 = .ok (.putfield 107, 3) := by decide +kernel
theorem dX12_init_266 : decode cX12_init 266 = .ok (.aload_n 0, 1) := by decide +kernel
theorem dX12_init_267 : decode cX12_init 267 = .ok (.bipush 60, 2) := by decide +kernel
theorem dX12_init_269 : decode cX12_init 269 = .ok (.newarray .long, 2) := by decide +kernel
theorem dX12_init_271 : decode cX12_init 271 = .ok (.putfield 110, 3) := by decide +kernel
theorem dX12_init_274 : decode cX12_init 274 = .ok (.aload_n 0, 1) := by decide +kernel
theorem dX12_init_275 : decode cX12_init 275 = .ok (.sipush 2400, 3) := by decide +kernel
theorem dX12_init_278 : decode cX12_init 278 = .ok (.newarray .byte, 2) := by decide +kernel
theorem dX12_init_280 : decode cX12_init 280 = .ok (.putfield 113, 3) := by decide +kernel
theorem dX12_init_283 : decode cX12_init 283 = .ok (.aload_n 0, 1) := by decide +kernel
theorem dX12_init_284 : decode cX12_init 284 = .ok (.bipush 60, 2) := by decide +kernel
theorem dX12_init_286 : decode cX12_init 286 = .ok (.newarray .int, 2) := by decide +kernel
theorem dX12_init_288 : decode cX12_init 288 = .ok (.putfield 116, 3) := by decide +kernel
theorem dX12_init_291 : decode cX12_init 291 = .ok (.aload_n 0, 1) := by decide +kernel
theorem dX12_init_292 : decode cX12_init 292 = .ok (.sipush 960, 3) := by decide +kernel
theorem dX12_init_295 : decode cX12_init 295 = .ok (.newarray .long, 2) := by decide +kernel
theorem dX12_init_297 : decode cX12_init 297 = .ok (.putfield 119, 3) := by decide +kernel
theorem dX12_init_300 : decode cX12_init 300 = .ok (.aload_n 0, 1) := by decide +kernel
theorem dX12_init_301 : decode cX12_init 301 = .ok (.bipush 60, 2) := by decide +kernel
theorem dX12_init_303 : decode cX12_init 303 = .ok (.newarray .int, 2) := by decide +kernel
theorem dX12_init_305 : decode cX12_init 305 = .ok (.putfield 122, 3) := by decide +kernel
theorem dX12_init_308 : decode cX12_init 308 = .ok (.aload_n 0, 1) := by decide +kernel
theorem dX12_init_309 : decode cX12_init 309 = .ok (.bipush 17, 2) := by decide +kernel
theorem dX12_init_311 : decode cX12_init 311 = .ok (.newarray .long, 2) := by decide +kernel
theorem dX12_init_313 : decode cX12_init 313 = .ok (.putfield 125, 3) := by decide +kernel
theorem dX12_init_316 : decode cX12_init 316 = .ok (.aload_n 0, 1) := by decide +kernel
theorem dX12_init_317 : decode cX12_init 317 = .ok (.bipush 17, 2) := by decide +kernel
theorem dX12_init_319 : decode cX12_init 319 = .ok (.newarray .long, 2) := by decide +kernel
theorem dX12_init_321 : decode cX12_init 321 = .ok (.putfield 128, 3) := by decide +kernel
theorem dX12_init_324 : decode cX12_init 324 = .ok (.aload_n 0, 1) := by decide +kernel
theorem dX12_init_325 : decode cX12_init 325 = .ok (.sipush 2400, 3) := by decide +kernel
theorem dX12_init_328 : decode cX12_init 328 = .ok (.newarray .byte, 2) := by decide +kernel
theorem dX12_init_330 : decode cX12_init 330 = .ok (.putfield 131, 3) := by decide +kernel
theorem dX12_init_333 : decode cX12_init 333 = .ok (.aload_n 0, 1) := by decide +kernel
theorem dX12_init_334 : decode cX12_init 334 = .ok (.iconst 0, 1) := by decide +kernel
theorem dX12_init_335 : decode cX12_init 335 = .ok (.putfield 134, 3) := by decide +kernel
theorem dX12_init_338 : decode cX12_init 338 = .ok (.return_, 1) := by decide +kernel
theorem dX12_in_0 : decode cX12_in 0 = .ok (.lload_n 0, 1) := by decide +kernel
theorem dX12_in_1 : decode cX12_in 1 = .ok (.lload_n 2, 1) := by decide +kernel
theorem dX12_in_2 : decode cX12_in 2 = .ok (.lcmp, 1) := by decide +kernel
theorem dX12_in_3 : decode cX12_in 3 = .ok (.ifCond .lt 14, 3) := by decide +kernel
theorem dX12_in_6 : decode cX12_in 6 = .ok (.lload_n 0, 1) := by decide +kernel
theorem dX12_in_7 : decode cX12_in 7 = .ok (.lload 4, 2) := by decide +kernel
theorem dX12_in_9 : decode cX12_in 9 = .ok (.lcmp, 1) := by decide +kernel
theorem dX12_in_10 : decode cX12_in 10 = .ok (.ifCond .gt 7, 3) := by decide +kernel
theorem dX12_in_13 : decode cX12_in 13 = .ok (.iconst 1, 1) := by decide +kernel
theorem dX12_in_14 : decode cX12_in 14 = .ok (.goto 4, 3) := by decide +kernel
theorem dX12_in_17 : decode cX12_in 17 = .ok (.iconst 0, 1) := by decide +kernel
theorem dX12_in_18 : decode cX12_in 18 = .ok (.ireturn, 1) := by decide +kernel
theorem dX12_begins_0 : decode cX12_begins 0 = .ok (.iload 5, 2) := by decide +kernel
theorem dX12_begins_2 : decode cX12_begins 2 = .ok (.iload_n 2, 1) := by decide +kernel
theorem dX12_begins_3 : decode cX12_begins 3 = .ok (.if_icmp .gt 7, 3) := by decide +kernel
theorem dX12_begins_6 : decode cX12_begins 6 = .ok (.iconst 1, 1) := by decide +kernel
theorem dX12_begins_7 : decode cX12_begins 7 = .ok (.goto 4, 3) := by decide +kernel
theorem dX12_begins_10 : decode cX12_begins 10 = .ok (.iconst 0, 1) := by decide +kernel
theorem dX12_begins_11 : decode cX12_begins 11 = .ok (.istore 6, 2) := by decide +kernel
theorem dX12_begins_13 : decode cX12_begins 13 = .ok (.iconst 0, 1) := by decide +kernel
theorem dX12_begins_14 : decode cX12_begins 14 = .ok (.istore 7, 2) := by decide +kernel
theorem dX12_begins_16 : decode cX12_begins 16 = .ok (.iload 7, 2) := by decide +kernel
theorem dX12_begins_18 : decode cX12_begins 18 = .ok (.iload 5, 2) := by decide +kernel
theorem dX12_begins_20 : decode cX12_begins 20 = .ok (.if_icmp .ge 38, 3) := by decide +kernel
theorem dX12_begins_23 : decode cX12_begins 23 = .ok (.iload 6, 2) := by decide +kernel
theorem dX12_begins_25 : decode cX12_begins 25 = .ok (.ifCond .eq 33, 3) := by decide +kernel
theorem dX12_begins_28 : decode cX12_begins 28 = .ok (.aload_n 0, 1) := by decide +kernel
theorem dX12_begins_29 : decode cX12_begins 29 = .ok (.iload_n 1, 1) := by decide +kernel
theorem dX12_begins_30 : decode cX12_begins 30 = .ok (.iload 7, 2) := by decide +kernel
theorem dX12_begins_32 : decode cX12_begins 32 = .ok (.iadd, 1) := by decide +kernel
theorem dX12_begins_33 : decode cX12_begins 33 = .ok (.laload, 1) := by decide +kernel
theorem dX12_begins_34 : decode cX12_begins 34 = .ok (.aload_n 3, 1) := by decide +kernel
theorem dX12_begins_35 : decode cX12_begins 35 = .ok (.iload 4, 2) := by decide +kernel
theorem dX12_begins_37 : decode cX12_begins 37 = .ok (.iload 7, 2) := by decide +kernel
theorem dX12_begins_39 : decode cX12_begins 39 = .ok (.iadd, 1) := by decide +kernel
theorem dX12_begins_40 : decode cX12_begins 40 = .ok (.laload, 1) := by decide +kernel
theorem dX12_begins_41 : decode cX12_begins 41 = .ok (.lcmp, 1) := by decide +kernel
theorem dX12_begins_42 : decode cX12_begins 42 = .ok (.ifCond .ne 7, 3) := by decide +kernel
theorem dX12_begins_45 : decode cX12_begins 45 = .ok (.iconst 1, 1) := by decide +kernel
theorem dX12_begins_46 : decode cX12_begins 46 = .ok (.goto 4, 3) := by decide +kernel
theorem dX12_begins_49 : decode cX12_begins 49 = .ok (.iconst 0, 1) := by decide +kernel
theorem dX12_begins_50 : decode cX12_begins 50 = .ok (.istore 6, 2) := by decide +kernel
theorem dX12_begins_52 : decode cX12_begins 52 = .ok (.iinc 7 1, 3) := by decide +kernel
theorem dX12_begins_55 : decode cX12_begins 55 = .ok (.goto (-39), 3) := by decide +kernel
theorem dX12_begins_58 : decode cX12_begins 58 = .ok (.iload 6, 2) := by decide +kernel
theorem dX12_begins_60 : decode cX12_begins 60 = .ok (.ireturn, 1) := by decide +kernel
theorem dX12_order_0 : decode cX12_order 0 = .ok (.iconst 0, 1) := by decide +kernel
theorem dX12_order_1 : decode cX12_order 1 = .ok (.istore 6, 2) := by decide +kernel
theorem dX12_order_3 : decode cX12_order 3 = .ok (.iload 6, 2) := by decide +kernel
theorem dX12_order_5 : decode cX12_order 5 = .ok (.iload_n 2, 1) := by decide +kernel
theorem dX12_order_6 : decode cX12_order 6 = .ok (.if_icmp .ge 56, 3) := by decide +kernel
theorem dX12_order_9 : decode cX12_order 9 = .ok (.iload 6, 2) := by decide +kernel
theorem dX12_order_11 : decode cX12_order 11 = .ok (.iload 5, 2) := by decide +kernel
theorem dX12_order_13 : decode cX12_order 13 = .ok (.if_icmp .ge 49, 3) := by decide +kernel
theorem dX12_order_16 : decode cX12_order 16 = .ok (.aload_n 0, 1) := by decide +kernel
theorem dX12_order_17 : decode cX12_order 17 = .ok (.iload_n 1, 1) := by decide +kernel
theorem dX12_order_18 : decode cX12_order 18 = .ok (.iload 6, 2) := by decide +kernel
theorem dX12_order_20 : decode cX12_order 20 = .ok (.iadd, 1) := by decide +kernel
theorem dX12_order_21 : decode cX12_order 21 = .ok (.laload, 1) := by decide +kernel
theorem dX12_order_22 : decode cX12_order 22 = .ok (.aload_n 3, 1) := by decide +kernel
theorem dX12_order_23 : decode cX12_order 23 = .ok (.iload 4, 2) := by decide +kernel
theorem dX12_order_25 : decode cX12_order 25 = .ok (.iload 6, 2) := by decide +kernel
theorem dX12_order_27 : decode cX12_order 27 = .ok (.iadd, 1) := by decide +kernel
theorem dX12_order_28 : decode cX12_order 28 = .ok (.laload, 1) := by decide +kernel
theorem dX12_order_29 : decode cX12_order 29 = .ok (.lcmp, 1) := by decide +kernel
theorem dX12_order_30 : decode cX12_order 30 = .ok (.ifCond .eq 26, 3) := by decide +kernel
theorem dX12_order_33 : decode cX12_order 33 = .ok (.aload_n 0, 1) := by decide +kernel
theorem dX12_order_34 : decode cX12_order 34 = .ok (.iload_n 1, 1) := by decide +kernel
theorem dX12_order_35 : decode cX12_order 35 = .ok (.iload 6, 2) := by decide +kernel
theorem dX12_order_37 : decode cX12_order 37 = .ok (.iadd, 1) := by decide +kernel
theorem dX12_order_38 : decode cX12_order 38 = .ok (.laload, 1) := by decide +kernel
theorem dX12_order_39 : decode cX12_order 39 = .ok (.aload_n 3, 1) := by decide +kernel
theorem dX12_order_40 : decode cX12_order 40 = .ok (.iload 4, 2) := by decide +kernel
theorem dX12_order_42 : decode cX12_order 42 = .ok (.iload 6, 2) := by decide +kernel
theorem dX12_order_44 : decode cX12_order 44 = .ok (.iadd, 1) := by decide +kernel
theorem dX12_order_45 : decode cX12_order 45 = .ok (.laload, 1) := by decide +kernel
theorem dX12_order_46 : decode cX12_order 46 = .ok (.lcmp, 1) := by decide +kernel
theorem dX12_order_47 : decode cX12_order 47 = .ok (.ifCond .ge 7, 3) := by decide +kernel
theorem dX12_order_50 : decode cX12_order 50 = .ok (.iconst (-1), 1) := by decide +kernel
theorem dX12_order_51 : decode cX12_order 51 = .ok (.goto 4, 3) := by decide +kernel
theorem dX12_order_54 : decode cX12_order 54 = .ok (.iconst 1, 1) := by decide +kernel
theorem dX12_order_55 : decode cX12_order 55 = .ok (.ireturn, 1) := by decide +kernel
theorem dX12_order_56 : decode cX12_order 56 = .ok (.iinc 6 1, 3) := by decide +kernel
theorem dX12_order_59 : decode cX12_order 59 = .ok (.goto (-56), 3) := by decide +kernel
theorem dX12_order_62 : decode cX12_order 62 = .ok (.iload_n 2, 1) := by decide +kernel
theorem dX12_order_63 : decode cX12_order 63 = .ok (.iload 5, 2) := by decide +kernel
theorem dX12_order_65 : decode cX12_order 65 = .ok (.if_icmp .ge 7, 3) := by decide +kernel
theorem dX12_order_68 : decode cX12_order 68 = .ok (.iconst (-1), 1) := by decide +kernel
theorem dX12_order_69 : decode cX12_order 69 = .ok (.goto 14, 3) := by decide +kernel
theorem dX12_order_72 : decode cX12_order 72 = .ok (.iload_n 2, 1) := by decide +kernel
theorem dX12_order_73 : decode cX12_order 73 = .ok (.iload 5, 2) := by decide +kernel
theorem dX12_order_75 : decode cX12_order 75 = .ok (.if_icmp .le 7, 3) := by decide +kernel
theorem dX12_order_78 : decode cX12_order 78 = .ok (.iconst 1, 1) := by decide +kernel
theorem dX12_order_79 : decode cX12_order 79 = .ok (.goto 4, 3) := by decide +kernel
theorem dX12_order_82 : decode cX12_order 82 = .ok (.iconst 0, 1) := by decide +kernel
theorem dX12_order_83 : decode cX12_order 83 = .ok (.ireturn, 1) := by decide +kernel
theorem dX12_feed_0 : decode cX12_feed 0 = .ok (.aload_n 0, 1) := by decide +kernel
theorem dX12_feed_1 : decode cX12_feed 1 = .ok (.iconst 0, 1) := by decide +kernel
theorem dX12_feed_2 : decode cX12_feed 2 = .ok (.putfield 137, 3) := by decide +kernel
theorem dX12_feed_5 : decode cX12_feed 5 = .ok (.iload_n 3, 1) := by decide +kernel
theorem dX12_feed_6 : decode cX12_feed 6 = .ok (.i2l, 1) := by decide +kernel
theorem dX12_feed_7 : decode cX12_feed 7 = .ok (.lconst 0, 1) := by decide +kernel
theorem dX12_feed_8 : decode cX12_feed 8 = .ok (.ldc2_w 140, 3) := by decide +kernel
theorem dX12_feed_11 : decode cX12_feed 11 = .ok (.invokestatic 142, 3) := by decide +kernel
theorem dX12_feed_14 : decode cX12_feed 14 = .ok (.ifCond .ne 6, 3) := by decide +kernel
theorem dX12_feed_17 : decode cX12_feed 17 = .ok (.bipush (-2), 2) := by decide +kernel
theorem dX12_feed_19 : decode cX12_feed 19 = .ok (.ireturn, 1) := by decide +kernel
theorem dX12_feed_20 : decode cX12_feed 20 = .ok (.iload_n 3, 1) := by decide +kernel
theorem dX12_feed_21 : decode cX12_feed 21 = .ok (.ifCond .ne 10, 3) := by decide +kernel
theorem dX12_feed_24 : decode cX12_feed 24 = .ok (.aload_n 0, 1) := by decide +kernel
theorem dX12_feed_25 : decode cX12_feed 25 = .ok (.iconst 0, 1) := by decide +kernel
theorem dX12_feed_26 : decode cX12_feed 26 = .ok (.putfield 146, 3) := by decide +kernel
theorem dX12_feed_29 : decode cX12_feed 29 = .ok (.iconst 0, 1) := by decide +kernel
theorem dX12_feed_30 : decode cX12_feed 30 = .ok (.ireturn, 1) := by decide +kernel
theorem dX12_feed_31 : decode cX12_feed 31 = .ok (.aload_n 0, 1) := by decide +kernel
theorem dX12_feed_32 : decode cX12_feed 32 = .ok (.getfield 146, 3) := by decide +kernel
theorem dX12_feed_35 : decode cX12_feed 35 = .ok (.iload_n 3, 1) := by decide +kernel
theorem dX12_feed_36 : decode cX12_feed 36 = .ok (.iadd, 1) := by decide +kernel
theorem dX12_feed_37 : decode cX12_feed 37 = .ok (.sipush 1200, 3) := by decide +kernel
theorem dX12_feed_40 : decode cX12_feed 40 = .ok (.if_icmp .le 6, 3) := by decide +kernel
theorem dX12_feed_43 : decode cX12_feed 43 = .ok (.bipush (-4), 2) := by decide +kernel
theorem dX12_feed_45 : decode cX12_feed 45 = .ok (.ireturn, 1) := by decide +kernel
theorem dX12_feed_46 : decode cX12_feed 46 = .ok (.iload_n 3, 1) := by decide +kernel
theorem dX12_feed_47 : decode cX12_feed 47 = .ok (.iconst 1, 1) := by decide +kernel
theorem dX12_feed_48 : decode cX12_feed 48 = .ok (.isub, 1) := by decide +kernel
theorem dX12_feed_49 : decode cX12_feed 49 = .ok (.istore 4, 2) := by decide +kernel
theorem dX12_feed_51 : decode cX12_feed 51 = .ok (.iload 4, 2) := by decide +kernel
theorem dX12_feed_53 : decode cX12_feed 53 = .ok (.ifCond .lt 37, 3) := by decide +kernel
theorem dX12_feed_56 : decode cX12_feed 56 = .ok (.aload_n 0, 1) := by decide +kernel
theorem dX12_feed_57 : decode cX12_feed 57 = .ok (.getfield 7, 3) := by decide +kernel
theorem dX12_feed_60 : decode cX12_feed 60 = .ok (.aload_n 0, 1) := by decide +kernel
theorem dX12_feed_61 : decode cX12_feed 61 = .ok (.getfield 146, 3) := by decide +kernel
theorem dX12_feed_64 : decode cX12_feed 64 = .ok (.lload_n 1, 1) := by decide +kernel
theorem dX12_feed_65 : decode cX12_feed 65 = .ok (.bipush 8, 2) := by decide +kernel
theorem dX12_feed_67 : decode cX12_feed 67 = .ok (.iload 4, 2) := by decide +kernel
theorem dX12_feed_69 : decode cX12_feed 69 = .ok (.imul, 1) := by decide +kernel
theorem dX12_feed_70 : decode cX12_feed 70 = .ok (.lshr, 1) := by decide +kernel
theorem dX12_feed_71 : decode cX12_feed 71 = .ok (.l2i, 1) := by decide +kernel
theorem dX12_feed_72 : decode cX12_feed 72 = .ok (.i2b, 1) := by decide +kernel
theorem dX12_feed_73 : decode cX12_feed 73 = .ok (.bastore, 1) := by decide +kernel
theorem dX12_feed_74 : decode cX12_feed 74 = .ok (.aload_n 0, 1) := by decide +kernel
theorem dX12_feed_75 : decode cX12_feed 75 = .ok (.dup, 1) := by decide +kernel
theorem dX12_feed_76 : decode cX12_feed 76 = .ok (.getfield 146, 3) := by decide +kernel
theorem dX12_feed_79 : decode cX12_feed 79 = .ok (.iconst 1, 1) := by decide +kernel
theorem dX12_feed_80 : decode cX12_feed 80 = .ok (.iadd, 1) := by decide +kernel
theorem dX12_feed_81 : decode cX12_feed 81 = .ok (.putfield 146, 3) := by decide +kernel
theorem dX12_feed_84 : decode cX12_feed 84 = .ok (.iinc 4 (-1), 3) := by decide +kernel
theorem dX12_feed_87 : decode cX12_feed 87 = .ok (.goto (-36), 3) := by decide +kernel
theorem dX12_feed_90 : decode cX12_feed 90 = .ok (.aload_n 0, 1) := by decide +kernel
theorem dX12_feed_91 : decode cX12_feed 91 = .ok (.getfield 146, 3) := by decide +kernel
theorem dX12_feed_94 : decode cX12_feed 94 = .ok (.ireturn, 1) := by decide +kernel
theorem dX12_number_0 : decode cX12_number 0 = .ok (.aload_n 0, 1) := by decide +kernel
theorem dX12_number_1 : decode cX12_number 1 = .ok (.iconst 0, 1) := by decide +kernel
theorem dX12_number_2 : decode cX12_number 2 = .ok (.putfield 137, 3) := by decide +kernel
theorem dX12_number_5 : decode cX12_number 5 = .ok (.lload_n 1, 1) := by decide +kernel
theorem dX12_number_6 : decode cX12_number 6 = .ok (.ldc2_w 149, 3) := by decide +kernel
theorem dX12_number_9 : decode cX12_number 9 = .ok (.lcmp, 1) := by decide +kernel
theorem dX12_number_10 : decode cX12_number 10 = .ok (.ifCond .ne 10, 3) := by decide +kernel
theorem dX12_number_13 : decode cX12_number 13 = .ok (.aload_n 0, 1) := by decide +kernel
theorem dX12_number_14 : decode cX12_number 14 = .ok (.iconst 0, 1) := by decide +kernel
theorem dX12_number_15 : decode cX12_number 15 = .ok (.putfield 151, 3) := by decide +kernel
theorem dX12_number_18 : decode cX12_number 18 = .ok (.iconst 0, 1) := by decide +kernel
theorem dX12_number_19 : decode cX12_number 19 = .ok (.ireturn, 1) := by decide +kernel
theorem dX12_number_20 : decode cX12_number 20 = .ok (.aload_n 0, 1) := by decide +kernel
theorem dX12_number_21 : decode cX12_number 21 = .ok (.getfield 151, 3) := by decide +kernel
theorem dX12_number_24 : decode cX12_number 24 = .ok (.ifCond .ne 9, 3) := by decide +kernel
theorem dX12_number_27 : decode cX12_number 27 = .ok (.ldc2_w 154, 3) := by decide +kernel
theorem dX12_number_30 : decode cX12_number 30 = .ok (.goto 20, 3) := by decide +kernel
theorem dX12_number_33 : decode cX12_number 33 = .ok (.aload_n 0, 1) := by decide +kernel
theorem dX12_number_34 : decode cX12_number 34 = .ok (.getfield 151, 3) := by decide +kernel
theorem dX12_number_37 : decode cX12_number 37 = .ok (.iconst 1, 1) := by decide +kernel
theorem dX12_number_38 : decode cX12_number 38 = .ok (.if_icmp .ne 9, 3) := by decide +kernel
theorem dX12_number_41 : decode cX12_number 41 = .ok (.ldc2_w 156, 3) := by decide +kernel
theorem dX12_number_44 : decode cX12_number 44 = .ok (.goto 6, 3) := by decide +kernel
theorem dX12_number_47 : decode cX12_number 47 = .ok (.ldc2_w 158, 3) := by decide +kernel
theorem dX12_number_50 : decode cX12_number 50 = .ok (.lstore_n 3, 1) := by decide +kernel
theorem dX12_number_51 : decode cX12_number 51 = .ok (.lload_n 1, 1) := by decide +kernel
theorem dX12_number_52 : decode cX12_number 52 = .ok (.lconst 0, 1) := by decide +kernel
theorem dX12_number_53 : decode cX12_number 53 = .ok (.lload_n 3, 1) := by decide +kernel
theorem dX12_number_54 : decode cX12_number 54 = .ok (.invokestatic 142, 3) := by decide +kernel
theorem dX12_number_57 : decode cX12_number 57 = .ok (.ifCond .ne 6, 3) := by decide +kernel
theorem dX12_number_60 : decode cX12_number 60 = .ok (.bipush (-2), 2) := by decide +kernel
theorem dX12_number_62 : decode cX12_number 62 = .ok (.ireturn, 1) := by decide +kernel
theorem dX12_number_63 : decode cX12_number 63 = .ok (.aload_n 0, 1) := by decide +kernel
theorem dX12_number_64 : decode cX12_number 64 = .ok (.getfield 151, 3) := by decide +kernel
theorem dX12_number_67 : decode cX12_number 67 = .ok (.bipush 16, 2) := by decide +kernel
theorem dX12_number_69 : decode cX12_number 69 = .ok (.if_icmp .ne 6, 3) := by decide +kernel
theorem dX12_number_72 : decode cX12_number 72 = .ok (.bipush (-4), 2) := by decide +kernel
theorem dX12_number_74 : decode cX12_number 74 = .ok (.ireturn, 1) := by decide +kernel
theorem dX12_number_75 : decode cX12_number 75 = .ok (.aload_n 0, 1) := by decide +kernel
theorem dX12_number_76 : decode cX12_number 76 = .ok (.getfield 13, 3) := by decide +kernel
theorem dX12_number_79 : decode cX12_number 79 = .ok (.aload_n 0, 1) := by decide +kernel
theorem dX12_number_80 : decode cX12_number 80 = .ok (.getfield 151, 3) := by decide +kernel
theorem dX12_number_83 : decode cX12_number 83 = .ok (.lload_n 1, 1) := by decide +kernel
theorem dX12_number_84 : decode cX12_number 84 = .ok (.lastore, 1) := by decide +kernel
theorem dX12_number_85 : decode cX12_number 85 = .ok (.aload_n 0, 1) := by decide +kernel
theorem dX12_number_86 : decode cX12_number 86 = .ok (.dup, 1) := by decide +kernel
theorem dX12_number_87 : decode cX12_number 87 = .ok (.getfield 151, 3) := by decide +kernel
theorem dX12_number_90 : decode cX12_number 90 = .ok (.iconst 1, 1) := by decide +kernel
theorem dX12_number_91 : decode cX12_number 91 = .ok (.iadd, 1) := by decide +kernel
theorem dX12_number_92 : decode cX12_number 92 = .ok (.putfield 151, 3) := by decide +kernel
theorem dX12_number_95 : decode cX12_number 95 = .ok (.aload_n 0, 1) := by decide +kernel
theorem dX12_number_96 : decode cX12_number 96 = .ok (.getfield 151, 3) := by decide +kernel
theorem dX12_number_99 : decode cX12_number 99 = .ok (.ireturn, 1) := by decide +kernel
theorem dX12_clashes_0 : decode cX12_clashes 0 = .ok (.iconst 0, 1) := by decide +kernel
theorem dX12_clashes_1 : decode cX12_clashes 1 = .ok (.istore_n 2, 1) := by decide +kernel
theorem dX12_clashes_2 : decode cX12_clashes 2 = .ok (.iconst 0, 1) := by decide +kernel
theorem dX12_clashes_3 : decode cX12_clashes 3 = .ok (.istore_n 3, 1) := by decide +kernel
theorem dX12_clashes_4 : decode cX12_clashes 4 = .ok (.iload_n 3, 1) := by decide +kernel
theorem dX12_clashes_5 : decode cX12_clashes 5 = .ok (.aload_n 0, 1) := by decide +kernel
theorem dX12_clashes_6 : decode cX12_clashes 6 = .ok (.getfield 160, 3) := by decide +kernel
theorem dX12_clashes_9 : decode cX12_clashes 9 = .ok (.if_icmp .ge 71, 3) := by decide +kernel
theorem dX12_clashes_12 : decode cX12_clashes 12 = .ok (.iload_n 2, 1) := by decide +kernel
theorem dX12_clashes_13 : decode cX12_clashes 13 = .ok (.ifCond .ne 55, 3) := by decide +kernel
theorem dX12_clashes_16 : decode cX12_clashes 16 = .ok (.aload_n 0, 1) := by decide +kernel
theorem dX12_clashes_17 : decode cX12_clashes 17 = .ok (.getfield 13, 3) := by decide +kernel
theorem dX12_clashes_20 : decode cX12_clashes 20 = .ok (.iconst 0, 1) := by decide +kernel
theorem dX12_clashes_21 : decode cX12_clashes 21 = .ok (.iload_n 1, 1) := by decide +kernel
theorem dX12_clashes_22 : decode cX12_clashes 22 = .ok (.aload_n 0, 1) := by decide +kernel
theorem dX12_clashes_23 : decode cX12_clashes 23 = .ok (.getfield 25, 3) := by decide +kernel
theorem dX12_clashes_26 : decode cX12_clashes 26 = .ok (.bipush 16, 2) := by decide +kernel
theorem dX12_clashes_28 : decode cX12_clashes 28 = .ok (.iload_n 3, 1) := by decide +kernel
theorem dX12_clashes_29 : decode cX12_clashes 29 = .ok (.imul, 1) := by decide +kernel
theorem dX12_clashes_30 : decode cX12_clashes 30 = .ok (.aload_n 0, 1) := by decide +kernel
theorem dX12_clashes_31 : decode cX12_clashes 31 = .ok (.getfield 28, 3) := by decide +kernel
theorem dX12_clashes_34 : decode cX12_clashes 34 = .ok (.iload_n 3, 1) := by decide +kernel
theorem dX12_clashes_35 : decode cX12_clashes 35 = .ok (.iaload, 1) := by decide +kernel
theorem dX12_clashes_36 : decode cX12_clashes 36 = .ok (.invokestatic 163, 3) := by decide +kernel
theorem dX12_clashes_39 : decode cX12_clashes 39 = .ok (.ifCond .ne 29, 3) := by decide +kernel
theorem dX12_clashes_42 : decode cX12_clashes 42 = .ok (.aload_n 0, 1) := by decide +kernel
theorem dX12_clashes_43 : decode cX12_clashes 43 = .ok (.getfield 25, 3) := by decide +kernel
theorem dX12_clashes_46 : decode cX12_clashes 46 = .ok (.bipush 16, 2) := by decide +kernel
theorem dX12_clashes_48 : decode cX12_clashes 48 = .ok (.iload_n 3, 1) := by decide +kernel
theorem dX12_clashes_49 : decode cX12_clashes 49 = .ok (.imul, 1) := by decide +kernel
theorem dX12_clashes_50 : decode cX12_clashes 50 = .ok (.aload_n 0, 1) := by decide +kernel
theorem dX12_clashes_51 : decode cX12_clashes 51 = .ok (.getfield 28, 3) := by decide +kernel
theorem dX12_clashes_54 : decode cX12_clashes 54 = .ok (.iload_n 3, 1) := by decide +kernel
theorem dX12_clashes_55 : decode cX12_clashes 55 = .ok (.iaload, 1) := by decide +kernel
theorem dX12_clashes_56 : decode cX12_clashes 56 = .ok (.aload_n 0, 1) := by decide +kernel
theorem dX12_clashes_57 : decode cX12_clashes 57 = .ok (.getfield 13, 3) := by decide +kernel
theorem dX12_clashes_60 : decode cX12_clashes 60 = .ok (.iconst 0, 1) := by decide +kernel
theorem dX12_clashes_61 : decode cX12_clashes 61 = .ok (.iload_n 1, 1) := by decide +kernel
theorem dX12_clashes_62 : decode cX12_clashes 62 = .ok (.invokestatic 163, 3) := by decide +kernel
theorem dX12_clashes_65 : decode cX12_clashes 65 = .ok (.ifCond .eq 7, 3) := by decide +kernel
theorem dX12_clashes_68 : decode cX12_clashes 68 = .ok (.iconst 1, 1) := by decide +kernel
theorem dX12_clashes_69 : decode cX12_clashes 69 = .ok (.goto 4, 3) := by decide +kernel
theorem dX12_clashes_72 : decode cX12_clashes 72 = .ok (.iconst 0, 1) := by decide +kernel
theorem dX12_clashes_73 : decode cX12_clashes 73 = .ok (.istore_n 2, 1) := by decide +kernel
theorem dX12_clashes_74 : decode cX12_clashes 74 = .ok (.iinc 3 1, 3) := by decide +kernel
theorem dX12_clashes_77 : decode cX12_clashes 77 = .ok (.goto (-73), 3) := by decide +kernel
theorem dX12_clashes_80 : decode cX12_clashes 80 = .ok (.iconst 0, 1) := by decide +kernel
theorem dX12_clashes_81 : decode cX12_clashes 81 = .ok (.istore_n 3, 1) := by decide +kernel
theorem dX12_clashes_82 : decode cX12_clashes 82 = .ok (.iload_n 3, 1) := by decide +kernel
theorem dX12_clashes_83 : decode cX12_clashes 83 = .ok (.aload_n 0, 1) := by decide +kernel
theorem dX12_clashes_84 : decode cX12_clashes 84 = .ok (.getfield 134, 3) := by decide +kernel
theorem dX12_clashes_87 : decode cX12_clashes 87 = .ok (.if_icmp .ge 71, 3) := by decide +kernel
theorem dX12_clashes_90 : decode cX12_clashes 90 = .ok (.iload_n 2, 1) := by decide +kernel
theorem dX12_clashes_91 : decode cX12_clashes 91 = .ok (.ifCond .ne 55, 3) := by decide +kernel
theorem dX12_clashes_94 : decode cX12_clashes 94 = .ok (.aload_n 0, 1) := by decide +kernel
theorem dX12_clashes_95 : decode cX12_clashes 95 = .ok (.getfield 13, 3) := by decide +kernel
theorem dX12_clashes_98 : decode cX12_clashes 98 = .ok (.iconst 0, 1) := by decide +kernel
theorem dX12_clashes_99 : decode cX12_clashes 99 = .ok (.iload_n 1, 1) := by decide +kernel
theorem dX12_clashes_100 : decode cX12_clashes 100 = .ok (.aload_n 0, 1) := by decide +kernel
theorem dX12_clashes_101 : decode cX12_clashes 101 = .ok (.getfield 65, 3) := by decide +kernel
theorem dX12_clashes_104 : decode cX12_clashes 104 = .ok (.bipush 16, 2) := by decide +kernel
theorem dX12_clashes_106 : decode cX12_clashes 106 = .ok (.iload_n 3, 1) := by decide +kernel
theorem dX12_clashes_107 : decode cX12_clashes 107 = .ok (.imul, 1) := by decide +kernel
theorem dX12_clashes_108 : decode cX12_clashes 108 = .ok (.aload_n 0, 1) := by decide +kernel
theorem dX12_clashes_109 : decode cX12_clashes 109 = .ok (.getfield 68, 3) := by decide +kernel
theorem dX12_clashes_112 : decode cX12_clashes 112 = .ok (.iload_n 3, 1) := by decide +kernel
theorem dX12_clashes_113 : decode cX12_clashes 113 = .ok (.iaload, 1) := by decide +kernel
theorem dX12_clashes_114 : decode cX12_clashes 114 = .ok (.invokestatic 163, 3) := by decide +kernel
theorem dX12_clashes_117 : decode cX12_clashes 117 = .ok (.ifCond .ne 29, 3) := by decide +kernel
theorem dX12_clashes_120 : decode cX12_clashes 120 = .ok (.aload_n 0, 1) := by decide +kernel
theorem dX12_clashes_121 : decode cX12_clashes 121 = .ok (.getfield 65, 3) := by decide +kernel
theorem dX12_clashes_124 : decode cX12_clashes 124 = .ok (.bipush 16, 2) := by decide +kernel
theorem dX12_clashes_126 : decode cX12_clashes 126 = .ok (.iload_n 3, 1) := by decide +kernel
theorem dX12_clashes_127 : decode cX12_clashes 127 = .ok (.imul, 1) := by decide +kernel
theorem dX12_clashes_128 : decode cX12_clashes 128 = .ok (.aload_n 0, 1) := by decide +kernel
theorem dX12_clashes_129 : decode cX12_clashes 129 = .ok (.getfield 68, 3) := by decide +kernel
theorem dX12_clashes_132 : decode cX12_clashes 132 = .ok (.iload_n 3, 1) := by decide +kernel
theorem dX12_clashes_133 : decode cX12_clashes 133 = .ok (.iaload, 1) := by decide +kernel
theorem dX12_clashes_134 : decode cX12_clashes 134 = .ok (.aload_n 0, 1) := by decide +kernel
theorem dX12_clashes_135 : decode cX12_clashes 135 = .ok (.getfield 13, 3) := by decide +kernel
theorem dX12_clashes_138 : decode cX12_clashes 138 = .ok (.iconst 0, 1) := by decide +kernel
theorem dX12_clashes_139 : decode cX12_clashes 139 = .ok (.iload_n 1, 1) := by decide +kernel
theorem dX12_clashes_140 : decode cX12_clashes 140 = .ok (.invokestatic 163, 3) := by decide +kernel
theorem dX12_clashes_143 : decode cX12_clashes 143 = .ok (.ifCond .eq 7, 3) := by decide +kernel
theorem dX12_clashes_146 : decode cX12_clashes 146 = .ok (.iconst 1, 1) := by decide +kernel
theorem dX12_clashes_147 : decode cX12_clashes 147 = .ok (.goto 4, 3) := by decide +kernel
theorem dX12_clashes_150 : decode cX12_clashes 150 = .ok (.iconst 0, 1) := by decide +kernel
theorem dX12_clashes_151 : decode cX12_clashes 151 = .ok (.istore_n 2, 1) := by decide +kernel
theorem dX12_clashes_152 : decode cX12_clashes 152 = .ok (.iinc 3 1, 3) := by decide +kernel
theorem dX12_clashes_155 : decode cX12_clashes 155 = .ok (.goto (-73), 3) := by decide +kernel
theorem dX12_clashes_158 : decode cX12_clashes 158 = .ok (.iload_n 2, 1) := by decide +kernel
theorem dX12_clashes_159 : decode cX12_clashes 159 = .ok (.ireturn, 1) := by decide +kernel
theorem dX12_isTag_0 : decode cX12_isTag 0 = .ok (.iload_n 0, 1) := by decide +kernel
theorem dX12_isTag_1 : decode cX12_isTag 1 = .ok (.iconst 2, 1) := by decide +kernel
theorem dX12_isTag_2 : decode cX12_isTag 2 = .ok (.if_icmp .eq 34, 3) := by decide +kernel
theorem dX12_isTag_5 : decode cX12_isTag 5 = .ok (.iload_n 0, 1) := by decide +kernel
theorem dX12_isTag_6 : decode cX12_isTag 6 = .ok (.iconst 4, 1) := by decide +kernel
theorem dX12_isTag_7 : decode cX12_isTag 7 = .ok (.if_icmp .eq 29, 3) := by decide +kernel
theorem dX12_isTag_10 : decode cX12_isTag 10 = .ok (.iload_n 0, 1) := by decide +kernel
theorem dX12_isTag_11 : decode cX12_isTag 11 = .ok (.bipush 6, 2) := by decide +kernel
theorem dX12_isTag_13 : decode cX12_isTag 13 = .ok (.if_icmp .eq 23, 3) := by decide +kernel
theorem dX12_isTag_16 : decode cX12_isTag 16 = .ok (.iload_n 0, 1) := by decide +kernel
theorem dX12_isTag_17 : decode cX12_isTag 17 = .ok (.i2l, 1) := by decide +kernel
theorem dX12_isTag_18 : decode cX12_isTag 18 = .ok (.ldc2_w 167, 3) := by decide +kernel
theorem dX12_isTag_21 : decode cX12_isTag 21 = .ok (.ldc2_w 169, 3) := by decide +kernel
theorem dX12_isTag_24 : decode cX12_isTag 24 = .ok (.invokestatic 142, 3) := by decide +kernel
theorem dX12_isTag_27 : decode cX12_isTag 27 = .ok (.ifCond .ne 9, 3) := by decide +kernel
theorem dX12_isTag_30 : decode cX12_isTag 30 = .ok (.iload_n 0, 1) := by decide +kernel
theorem dX12_isTag_31 : decode cX12_isTag 31 = .ok (.bipush 70, 2) := by decide +kernel
theorem dX12_isTag_33 : decode cX12_isTag 33 = .ok (.if_icmp .ne 7, 3) := by decide +kernel
theorem dX12_isTag_36 : decode cX12_isTag 36 = .ok (.iconst 1, 1) := by decide +kernel
theorem dX12_isTag_37 : decode cX12_isTag 37 = .ok (.goto 4, 3) := by decide +kernel
theorem dX12_isTag_40 : decode cX12_isTag 40 = .ok (.iconst 0, 1) := by decide +kernel
theorem dX12_isTag_41 : decode cX12_isTag 41 = .ok (.ireturn, 1) := by decide +kernel
theorem dX12_newObject_0 : decode cX12_newObject 0 = .ok (.aload_n 0, 1) := by decide +kernel
theorem dX12_newObject_1 : decode cX12_newObject 1 = .ok (.getfield 160, 3) := by decide +kernel
theorem dX12_newObject_4 : decode cX12_newObject 4 = .ok (.istore 9, 2) := by decide +kernel
theorem dX12_newObject_6 : decode cX12_newObject 6 = .ok (.aload_n 0, 1) := by decide +kernel
theorem dX12_newObject_7 : decode cX12_newObject 7 = .ok (.getfield 31, 3) := by decide +kernel
theorem dX12_newObject_10 : decode cX12_newObject 10 = .ok (.iload 9, 2) := by decide +kernel
theorem dX12_newObject_12 : decode cX12_newObject 12 = .ok (.iload_n 1, 1) := by decide +kernel
theorem dX12_newObject_13 : decode cX12_newObject 13 = .ok (.iastore, 1) := by decide +kernel
theorem dX12_newObject_14 : decode cX12_newObject 14 = .ok (.aload_n 0, 1) := by decide +kernel
theorem dX12_newObject_15 : decode cX12_newObject 15 = .ok (.getfield 34, 3) := by decide +kernel
theorem dX12_newObject_18 : decode cX12_newObject 18 = .ok (.iload 9, 2) := by decide +kernel
theorem dX12_newObject_20 : decode cX12_newObject 20 = .ok (.iload_n 2, 1) := by decide +kernel
theorem dX12_newObject_21 : decode cX12_newObject 21 = .ok (.iastore, 1) := by decide +kernel
theorem dX12_newObject_22 : decode cX12_newObject 22 = .ok (.aload_n 0, 1) := by decide +kernel
theorem dX12_newObject_23 : decode cX12_newObject 23 = .ok (.getfield 37, 3) := by decide +kernel
theorem dX12_newObject_26 : decode cX12_newObject 26 = .ok (.iload 9, 2) := by decide +kernel
theorem dX12_newObject_28 : decode cX12_newObject 28 = .ok (.lload_n 3, 1) := by decide +kernel
theorem dX12_newObject_29 : decode cX12_newObject 29 = .ok (.lastore, 1) := by decide +kernel
theorem dX12_newObject_30 : decode cX12_newObject 30 = .ok (.aload_n 0, 1) := by decide +kernel
theorem dX12_newObject_31 : decode cX12_newObject 31 = .ok (.getfield 40, 3) := by decide +kernel
theorem dX12_newObject_34 : decode cX12_newObject 34 = .ok (.iload 9, 2) := by decide +kernel
theorem dX12_newObject_36 : decode cX12_newObject 36 = .ok (.lload 5, 2) := by decide +kernel
theorem dX12_newObject_38 : decode cX12_newObject 38 = .ok (.lastore, 1) := by decide +kernel
theorem dX12_newObject_39 : decode cX12_newObject 39 = .ok (.aload_n 0, 1) := by decide +kernel
theorem dX12_newObject_40 : decode cX12_newObject 40 = .ok (.getfield 43, 3) := by decide +kernel
theorem dX12_newObject_43 : decode cX12_newObject 43 = .ok (.iload 9, 2) := by decide +kernel
theorem dX12_newObject_45 : decode cX12_newObject 45 = .ok (.iload 7, 2) := by decide +kernel
theorem dX12_newObject_47 : decode cX12_newObject 47 = .ok (.iastore, 1) := by decide +kernel
theorem dX12_newObject_48 : decode cX12_newObject 48 = .ok (.aload_n 0, 1) := by decide +kernel
theorem dX12_newObject_49 : decode cX12_newObject 49 = .ok (.getfield 46, 3) := by decide +kernel
theorem dX12_newObject_52 : decode cX12_newObject 52 = .ok (.iload 9, 2) := by decide +kernel
theorem dX12_newObject_54 : decode cX12_newObject 54 = .ok (.iload 8, 2) := by decide +kernel
theorem dX12_newObject_56 : decode cX12_newObject 56 = .ok (.bastore, 1) := by decide +kernel
theorem dX12_newObject_57 : decode cX12_newObject 57 = .ok (.iconst 0, 1) := by decide +kernel
theorem dX12_newObject_58 : decode cX12_newObject 58 = .ok (.istore 10, 2) := by decide +kernel
theorem dX12_newObject_60 : decode cX12_newObject 60 = .ok (.iload 10, 2) := by decide +kernel
theorem dX12_newObject_62 : decode cX12_newObject 62 = .ok (.bipush 16, 2) := by decide +kernel
theorem dX12_newObject_64 : decode cX12_newObject 64 = .ok (.if_icmp .ge 17, 3) := by decide +kernel
theorem dX12_newObject_67 : decode cX12_newObject 67 = .ok (.aload_n 0, 1) := by decide +kernel
theorem dX12_newObject_68 : decode cX12_newObject 68 = .ok (.iload 9, 2) := by decide +kernel
theorem dX12_newObject_70 : decode cX12_newObject 70 = .ok (.iload 10, 2) := by decide +kernel
theorem dX12_newObject_72 : decode cX12_newObject 72 = .ok (.invokevirtual 171, 3) := by decide +kernel
theorem dX12_newObject_75 : decode cX12_newObject 75 = .ok (.iinc 10 1, 3) := by decide +kernel
theorem dX12_newObject_78 : decode cX12_newObject 78 = .ok (.goto (-18), 3) := by decide +kernel
theorem dX12_newObject_81 : decode cX12_newObject 81 = .ok (.aload_n 0, 1) := by decide +kernel
theorem dX12_newObject_82 : decode cX12_newObject 82 = .ok (.dup, 1) := by decide +kernel
theorem dX12_newObject_83 : decode cX12_newObject 83 = .ok (.getfield 160, 3) := by decide +kernel
theorem dX12_newObject_86 : decode cX12_newObject 86 = .ok (.iconst 1, 1) := by decide +kernel
theorem dX12_newObject_87 : decode cX12_newObject 87 = .ok (.iadd, 1) := by decide +kernel
theorem dX12_newObject_88 : decode cX12_newObject 88 = .ok (.putfield 160, 3) := by decide +kernel
theorem dX12_newObject_91 : decode cX12_newObject 91 = .ok (.iload 9, 2) := by decide +kernel
theorem dX12_newObject_93 : decode cX12_newObject 93 = .ok (.ireturn, 1) := by decide +kernel
theorem dX12_first_0 : decode cX12_first 0 = .ok (.aload_n 0, 1) := by decide +kernel
theorem dX12_first_1 : decode cX12_first 1 = .ok (.getfield 50, 3) := by decide +kernel
theorem dX12_first_4 : decode cX12_first 4 = .ok (.bipush 16, 2) := by decide +kernel
theorem dX12_first_6 : decode cX12_first 6 = .ok (.iload_n 1, 1) := by decide +kernel
theorem dX12_first_7 : decode cX12_first 7 = .ok (.imul, 1) := by decide +kernel
theorem dX12_first_8 : decode cX12_first 8 = .ok (.iload_n 2, 1) := by decide +kernel
theorem dX12_first_9 : decode cX12_first 9 = .ok (.iadd, 1) := by decide +kernel
theorem dX12_first_10 : decode cX12_first 10 = .ok (.lconst 0, 1) := by decide +kernel
theorem dX12_first_11 : decode cX12_first 11 = .ok (.lastore, 1) := by decide +kernel
theorem dX12_first_12 : decode cX12_first 12 = .ok (.aload_n 0, 1) := by decide +kernel
theorem dX12_first_13 : decode cX12_first 13 = .ok (.getfield 56, 3) := by decide +kernel
theorem dX12_first_16 : decode cX12_first 16 = .ok (.bipush 16, 2) := by decide +kernel
theorem dX12_first_18 : decode cX12_first 18 = .ok (.iload_n 1, 1) := by decide +kernel
theorem dX12_first_19 : decode cX12_first 19 = .ok (.imul, 1) := by decide +kernel
theorem dX12_first_20 : decode cX12_first 20 = .ok (.iload_n 2, 1) := by decide +kernel
theorem dX12_first_21 : decode cX12_first 21 = .ok (.iadd, 1) := by decide +kernel
theorem dX12_first_22 : decode cX12_first 22 = .ok (.iconst 0, 1) := by decide +kernel
theorem dX12_first_23 : decode cX12_first 23 = .ok (.iastore, 1) := by decide +kernel
theorem dX12_first_24 : decode cX12_first 24 = .ok (.aload_n 0, 1) := by decide +kernel
theorem dX12_first_25 : decode cX12_first 25 = .ok (.getfield 62, 3) := by decide +kernel
theorem dX12_first_28 : decode cX12_first 28 = .ok (.bipush 16, 2) := by decide +kernel
theorem dX12_first_30 : decode cX12_first 30 = .ok (.iload_n 1, 1) := by decide +kernel
theorem dX12_first_31 : decode cX12_first 31 = .ok (.imul, 1) := by decide +kernel
theorem dX12_first_32 : decode cX12_first 32 = .ok (.iload_n 2, 1) := by decide +kernel
theorem dX12_first_33 : decode cX12_first 33 = .ok (.iadd, 1) := by decide +kernel
theorem dX12_first_34 : decode cX12_first 34 = .ok (.iconst 2, 1) := by decide +kernel
theorem dX12_first_35 : decode cX12_first 35 = .ok (.iastore, 1) := by decide +kernel
theorem dX12_first_36 : decode cX12_first 36 = .ok (.aload_n 0, 1) := by decide +kernel
theorem dX12_first_37 : decode cX12_first 37 = .ok (.getfield 59, 3) := by decide +kernel
theorem dX12_first_40 : decode cX12_first 40 = .ok (.sipush 256, 3) := by decide +kernel
theorem dX12_first_43 : decode cX12_first 43 = .ok (.iload_n 1, 1) := by decide +kernel
theorem dX12_first_44 : decode cX12_first 44 = .ok (.imul, 1) := by decide +kernel
theorem dX12_first_45 : decode cX12_first 45 = .ok (.bipush 16, 2) := by decide +kernel
theorem dX12_first_47 : decode cX12_first 47 = .ok (.iload_n 2, 1) := by decide +kernel
theorem dX12_first_48 : decode cX12_first 48 = .ok (.imul, 1) := by decide +kernel
theorem dX12_first_49 : decode cX12_first 49 = .ok (.iadd, 1) := by decide +kernel
theorem dX12_first_50 : decode cX12_first 50 = .ok (.lconst 0, 1) := by decide +kernel
theorem dX12_first_51 : decode cX12_first 51 = .ok (.lastore, 1) := by decide +kernel
theorem dX12_first_52 : decode cX12_first 52 = .ok (.aload_n 0, 1) := by decide +kernel
theorem dX12_first_53 : decode cX12_first 53 = .ok (.getfield 59, 3) := by decide +kernel
theorem dX12_first_56 : decode cX12_first 56 = .ok (.sipush 256, 3) := by decide +kernel
theorem dX12_first_59 : decode cX12_first 59 = .ok (.iload_n 1, 1) := by decide +kernel
theorem dX12_first_60 : decode cX12_first 60 = .ok (.imul, 1) := by decide +kernel
theorem dX12_first_61 : decode cX12_first 61 = .ok (.bipush 16, 2) := by decide +kernel
theorem dX12_first_63 : decode cX12_first 63 = .ok (.iload_n 2, 1) := by decide +kernel
theorem dX12_first_64 : decode cX12_first 64 = .ok (.imul, 1) := by decide +kernel
theorem dX12_first_65 : decode cX12_first 65 = .ok (.iadd, 1) := by decide +kernel
theorem dX12_first_66 : decode cX12_first 66 = .ok (.iconst 1, 1) := by decide +kernel
theorem dX12_first_67 : decode cX12_first 67 = .ok (.iadd, 1) := by decide +kernel
theorem dX12_first_68 : decode cX12_first 68 = .ok (.lconst 0, 1) := by decide +kernel
theorem dX12_first_69 : decode cX12_first 69 = .ok (.lastore, 1) := by decide +kernel
theorem dX12_first_70 : decode cX12_first 70 = .ok (.return_, 1) := by decide +kernel
theorem dX12_scalar_0 : decode cX12_scalar 0 = .ok (.aload_n 0, 1) := by decide +kernel
theorem dX12_scalar_1 : decode cX12_scalar 1 = .ok (.iconst 0, 1) := by decide +kernel
theorem dX12_scalar_2 : decode cX12_scalar 2 = .ok (.putfield 137, 3) := by decide +kernel
theorem dX12_scalar_5 : decode cX12_scalar 5 = .ok (.aload_n 0, 1) := by decide +kernel
theorem dX12_scalar_6 : decode cX12_scalar 6 = .ok (.getfield 151, 3) := by decide +kernel
theorem dX12_scalar_9 : decode cX12_scalar 9 = .ok (.istore 7, 2) := by decide +kernel
theorem dX12_scalar_11 : decode cX12_scalar 11 = .ok (.aload_n 0, 1) := by decide +kernel
theorem dX12_scalar_12 : decode cX12_scalar 12 = .ok (.iconst 0, 1) := by decide +kernel
