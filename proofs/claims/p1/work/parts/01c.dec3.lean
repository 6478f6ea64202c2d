theorem dX12_scalar_13 : decode cX12_scalar 13 = .ok (.putfield 151, 3) := by decide +kernel
theorem dX12_scalar_16 : decode cX12_scalar 16 = .ok (.iload_n 1, 1) := by decide +kernel
theorem dX12_scalar_17 : decode cX12_scalar 17 = .ok (.invokestatic 175, 3) := by decide +kernel
theorem dX12_scalar_20 : decode cX12_scalar 20 = .ok (.ifCond .eq 37, 3) := by decide +kernel
theorem dX12_scalar_23 : decode cX12_scalar 23 = .ok (.iload_n 2, 1) := by decide +kernel
theorem dX12_scalar_24 : decode cX12_scalar 24 = .ok (.i2l, 1) := by decide +kernel
theorem dX12_scalar_25 : decode cX12_scalar 25 = .ok (.lconst 0, 1) := by decide +kernel
theorem dX12_scalar_26 : decode cX12_scalar 26 = .ok (.ldc2_w 154, 3) := by decide +kernel
theorem dX12_scalar_29 : decode cX12_scalar 29 = .ok (.invokestatic 142, 3) := by decide +kernel
theorem dX12_scalar_32 : decode cX12_scalar 32 = .ok (.ifCond .eq 25, 3) := by decide +kernel
theorem dX12_scalar_35 : decode cX12_scalar 35 = .ok (.lload_n 3, 1) := by decide +kernel
theorem dX12_scalar_36 : decode cX12_scalar 36 = .ok (.lload 5, 2) := by decide +kernel
theorem dX12_scalar_38 : decode cX12_scalar 38 = .ok (.lcmp, 1) := by decide +kernel
theorem dX12_scalar_39 : decode cX12_scalar 39 = .ok (.ifCond .gt 18, 3) := by decide +kernel
theorem dX12_scalar_42 : decode cX12_scalar 42 = .ok (.iload 7, 2) := by decide +kernel
theorem dX12_scalar_44 : decode cX12_scalar 44 = .ok (.i2l, 1) := by decide +kernel
theorem dX12_scalar_45 : decode cX12_scalar 45 = .ok (.ldc2_w 154, 3) := by decide +kernel
theorem dX12_scalar_48 : decode cX12_scalar 48 = .ok (.ldc2_w 179, 3) := by decide +kernel
theorem dX12_scalar_51 : decode cX12_scalar 51 = .ok (.invokestatic 142, 3) := by decide +kernel
theorem dX12_scalar_54 : decode cX12_scalar 54 = .ok (.ifCond .ne 6, 3) := by decide +kernel
theorem dX12_scalar_57 : decode cX12_scalar 57 = .ok (.bipush (-2), 2) := by decide +kernel
theorem dX12_scalar_59 : decode cX12_scalar 59 = .ok (.ireturn, 1) := by decide +kernel
theorem dX12_scalar_60 : decode cX12_scalar 60 = .ok (.aload_n 0, 1) := by decide +kernel
theorem dX12_scalar_61 : decode cX12_scalar 61 = .ok (.iload 7, 2) := by decide +kernel
theorem dX12_scalar_63 : decode cX12_scalar 63 = .ok (.invokevirtual 181, 3) := by decide +kernel
theorem dX12_scalar_66 : decode cX12_scalar 66 = .ok (.ifCond .eq 6, 3) := by decide +kernel
theorem dX12_scalar_69 : decode cX12_scalar 69 = .ok (.bipush (-3), 2) := by decide +kernel
theorem dX12_scalar_71 : decode cX12_scalar 71 = .ok (.ireturn, 1) := by decide +kernel
theorem dX12_scalar_72 : decode cX12_scalar 72 = .ok (.aload_n 0, 1) := by decide +kernel
theorem dX12_scalar_73 : decode cX12_scalar 73 = .ok (.getfield 160, 3) := by decide +kernel
theorem dX12_scalar_76 : decode cX12_scalar 76 = .ok (.bipush 40, 2) := by decide +kernel
theorem dX12_scalar_78 : decode cX12_scalar 78 = .ok (.if_icmp .ne 6, 3) := by decide +kernel
theorem dX12_scalar_81 : decode cX12_scalar 81 = .ok (.bipush (-4), 2) := by decide +kernel
theorem dX12_scalar_83 : decode cX12_scalar 83 = .ok (.ireturn, 1) := by decide +kernel
theorem dX12_scalar_84 : decode cX12_scalar 84 = .ok (.iconst 0, 1) := by decide +kernel
theorem dX12_scalar_85 : decode cX12_scalar 85 = .ok (.istore 8, 2) := by decide +kernel
theorem dX12_scalar_87 : decode cX12_scalar 87 = .ok (.iload 8, 2) := by decide +kernel
theorem dX12_scalar_89 : decode cX12_scalar 89 = .ok (.iload 7, 2) := by decide +kernel
theorem dX12_scalar_91 : decode cX12_scalar 91 = .ok (.if_icmp .ge 31, 3) := by decide +kernel
theorem dX12_scalar_94 : decode cX12_scalar 94 = .ok (.aload_n 0, 1) := by decide +kernel
theorem dX12_scalar_95 : decode cX12_scalar 95 = .ok (.getfield 25, 3) := by decide +kernel
theorem dX12_scalar_98 : decode cX12_scalar 98 = .ok (.bipush 16, 2) := by decide +kernel
theorem dX12_scalar_100 : decode cX12_scalar 100 = .ok (.aload_n 0, 1) := by decide +kernel
theorem dX12_scalar_101 : decode cX12_scalar 101 = .ok (.getfield 160, 3) := by decide +kernel
theorem dX12_scalar_104 : decode cX12_scalar 104 = .ok (.imul, 1) := by decide +kernel
theorem dX12_scalar_105 : decode cX12_scalar 105 = .ok (.iload 8, 2) := by decide +kernel
theorem dX12_scalar_107 : decode cX12_scalar 107 = .ok (.iadd, 1) := by decide +kernel
theorem dX12_scalar_108 : decode cX12_scalar 108 = .ok (.aload_n 0, 1) := by decide +kernel
theorem dX12_scalar_109 : decode cX12_scalar 109 = .ok (.getfield 13, 3) := by decide +kernel
theorem dX12_scalar_112 : decode cX12_scalar 112 = .ok (.iload 8, 2) := by decide +kernel
theorem dX12_scalar_114 : decode cX12_scalar 114 = .ok (.laload, 1) := by decide +kernel
theorem dX12_scalar_115 : decode cX12_scalar 115 = .ok (.lastore, 1) := by decide +kernel
theorem dX12_scalar_116 : decode cX12_scalar 116 = .ok (.iinc 8 1, 3) := by decide +kernel
theorem dX12_scalar_119 : decode cX12_scalar 119 = .ok (.goto (-32), 3) := by decide +kernel
theorem dX12_scalar_122 : decode cX12_scalar 122 = .ok (.aload_n 0, 1) := by decide +kernel
theorem dX12_scalar_123 : decode cX12_scalar 123 = .ok (.getfield 28, 3) := by decide +kernel
theorem dX12_scalar_126 : decode cX12_scalar 126 = .ok (.aload_n 0, 1) := by decide +kernel
theorem dX12_scalar_127 : decode cX12_scalar 127 = .ok (.getfield 160, 3) := by decide +kernel
theorem dX12_scalar_130 : decode cX12_scalar 130 = .ok (.iload 7, 2) := by decide +kernel
theorem dX12_scalar_132 : decode cX12_scalar 132 = .ok (.iastore, 1) := by decide +kernel
theorem dX12_scalar_133 : decode cX12_scalar 133 = .ok (.aload_n 0, 1) := by decide +kernel
theorem dX12_scalar_134 : decode cX12_scalar 134 = .ok (.iload_n 1, 1) := by decide +kernel
theorem dX12_scalar_135 : decode cX12_scalar 135 = .ok (.iload_n 2, 1) := by decide +kernel
theorem dX12_scalar_136 : decode cX12_scalar 136 = .ok (.lload_n 3, 1) := by decide +kernel
theorem dX12_scalar_137 : decode cX12_scalar 137 = .ok (.lload 5, 2) := by decide +kernel
theorem dX12_scalar_139 : decode cX12_scalar 139 = .ok (.iconst (-1), 1) := by decide +kernel
theorem dX12_scalar_140 : decode cX12_scalar 140 = .ok (.iconst 0, 1) := by decide +kernel
theorem dX12_scalar_141 : decode cX12_scalar 141 = .ok (.invokevirtual 184, 3) := by decide +kernel
theorem dX12_scalar_144 : decode cX12_scalar 144 = .ok (.ireturn, 1) := by decide +kernel
theorem dX12_table_0 : decode cX12_table 0 = .ok (.aload_n 0, 1) := by decide +kernel
theorem dX12_table_1 : decode cX12_table 1 = .ok (.iconst 0, 1) := by decide +kernel
theorem dX12_table_2 : decode cX12_table 2 = .ok (.putfield 137, 3) := by decide +kernel
theorem dX12_table_5 : decode cX12_table 5 = .ok (.aload_n 0, 1) := by decide +kernel
theorem dX12_table_6 : decode cX12_table 6 = .ok (.getfield 151, 3) := by decide +kernel
theorem dX12_table_9 : decode cX12_table 9 = .ok (.istore_n 1, 1) := by decide +kernel
theorem dX12_table_10 : decode cX12_table 10 = .ok (.aload_n 0, 1) := by decide +kernel
theorem dX12_table_11 : decode cX12_table 11 = .ok (.iconst 0, 1) := by decide +kernel
theorem dX12_table_12 : decode cX12_table 12 = .ok (.putfield 151, 3) := by decide +kernel
theorem dX12_table_15 : decode cX12_table 15 = .ok (.iload_n 1, 1) := by decide +kernel
theorem dX12_table_16 : decode cX12_table 16 = .ok (.i2l, 1) := by decide +kernel
theorem dX12_table_17 : decode cX12_table 17 = .ok (.ldc2_w 154, 3) := by decide +kernel
theorem dX12_table_20 : decode cX12_table 20 = .ok (.ldc2_w 188, 3) := by decide +kernel
theorem dX12_table_23 : decode cX12_table 23 = .ok (.invokestatic 142, 3) := by decide +kernel
theorem dX12_table_26 : decode cX12_table 26 = .ok (.ifCond .ne 6, 3) := by decide +kernel
theorem dX12_table_29 : decode cX12_table 29 = .ok (.bipush (-2), 2) := by decide +kernel
theorem dX12_table_31 : decode cX12_table 31 = .ok (.ireturn, 1) := by decide +kernel
theorem dX12_table_32 : decode cX12_table 32 = .ok (.aload_n 0, 1) := by decide +kernel
theorem dX12_table_33 : decode cX12_table 33 = .ok (.iload_n 1, 1) := by decide +kernel
theorem dX12_table_34 : decode cX12_table 34 = .ok (.invokevirtual 181, 3) := by decide +kernel
theorem dX12_table_37 : decode cX12_table 37 = .ok (.ifCond .eq 6, 3) := by decide +kernel
theorem dX12_table_40 : decode cX12_table 40 = .ok (.bipush (-3), 2) := by decide +kernel
theorem dX12_table_42 : decode cX12_table 42 = .ok (.ireturn, 1) := by decide +kernel
theorem dX12_table_43 : decode cX12_table 43 = .ok (.aload_n 0, 1) := by decide +kernel
theorem dX12_table_44 : decode cX12_table 44 = .ok (.getfield 134, 3) := by decide +kernel
theorem dX12_table_47 : decode cX12_table 47 = .ok (.iconst 4, 1) := by decide +kernel
theorem dX12_table_48 : decode cX12_table 48 = .ok (.if_icmp .ne 6, 3) := by decide +kernel
theorem dX12_table_51 : decode cX12_table 51 = .ok (.bipush (-4), 2) := by decide +kernel
theorem dX12_table_53 : decode cX12_table 53 = .ok (.ireturn, 1) := by decide +kernel
theorem dX12_table_54 : decode cX12_table 54 = .ok (.iconst 0, 1) := by decide +kernel
theorem dX12_table_55 : decode cX12_table 55 = .ok (.istore_n 2, 1) := by decide +kernel
theorem dX12_table_56 : decode cX12_table 56 = .ok (.iload_n 2, 1) := by decide +kernel
theorem dX12_table_57 : decode cX12_table 57 = .ok (.iload_n 1, 1) := by decide +kernel
theorem dX12_table_58 : decode cX12_table 58 = .ok (.if_icmp .ge 29, 3) := by decide +kernel
theorem dX12_table_61 : decode cX12_table 61 = .ok (.aload_n 0, 1) := by decide +kernel
theorem dX12_table_62 : decode cX12_table 62 = .ok (.getfield 65, 3) := by decide +kernel
theorem dX12_table_65 : decode cX12_table 65 = .ok (.bipush 16, 2) := by decide +kernel
theorem dX12_table_67 : decode cX12_table 67 = .ok (.aload_n 0, 1) := by decide +kernel
theorem dX12_table_68 : decode cX12_table 68 = .ok (.getfield 134, 3) := by decide +kernel
theorem dX12_table_71 : decode cX12_table 71 = .ok (.imul, 1) := by decide +kernel
theorem dX12_table_72 : decode cX12_table 72 = .ok (.iload_n 2, 1) := by decide +kernel
theorem dX12_table_73 : decode cX12_table 73 = .ok (.iadd, 1) := by decide +kernel
theorem dX12_table_74 : decode cX12_table 74 = .ok (.aload_n 0, 1) := by decide +kernel
theorem dX12_table_75 : decode cX12_table 75 = .ok (.getfield 13, 3) := by decide +kernel
theorem dX12_table_78 : decode cX12_table 78 = .ok (.iload_n 2, 1) := by decide +kernel
theorem dX12_table_79 : decode cX12_table 79 = .ok (.laload, 1) := by decide +kernel
theorem dX12_table_80 : decode cX12_table 80 = .ok (.lastore, 1) := by decide +kernel
theorem dX12_table_81 : decode cX12_table 81 = .ok (.iinc 2 1, 3) := by decide +kernel
theorem dX12_table_84 : decode cX12_table 84 = .ok (.goto (-28), 3) := by decide +kernel
theorem dX12_table_87 : decode cX12_table 87 = .ok (.aload_n 0, 1) := by decide +kernel
theorem dX12_table_88 : decode cX12_table 88 = .ok (.getfield 68, 3) := by decide +kernel
theorem dX12_table_91 : decode cX12_table 91 = .ok (.aload_n 0, 1) := by decide +kernel
theorem dX12_table_92 : decode cX12_table 92 = .ok (.getfield 134, 3) := by decide +kernel
theorem dX12_table_95 : decode cX12_table 95 = .ok (.iload_n 1, 1) := by decide +kernel
theorem dX12_table_96 : decode cX12_table 96 = .ok (.iastore, 1) := by decide +kernel
theorem dX12_table_97 : decode cX12_table 97 = .ok (.aload_n 0, 1) := by decide +kernel
theorem dX12_table_98 : decode cX12_table 98 = .ok (.dup, 1) := by decide +kernel
theorem dX12_table_99 : decode cX12_table 99 = .ok (.getfield 134, 3) := by decide +kernel
theorem dX12_table_102 : decode cX12_table 102 = .ok (.iconst 1, 1) := by decide +kernel
theorem dX12_table_103 : decode cX12_table 103 = .ok (.iadd, 1) := by decide +kernel
theorem dX12_table_104 : decode cX12_table 104 = .ok (.putfield 134, 3) := by decide +kernel
theorem dX12_table_107 : decode cX12_table 107 = .ok (.aload_n 0, 1) := by decide +kernel
theorem dX12_table_108 : decode cX12_table 108 = .ok (.getfield 134, 3) := by decide +kernel
theorem dX12_table_111 : decode cX12_table 111 = .ok (.iconst 1, 1) := by decide +kernel
theorem dX12_table_112 : decode cX12_table 112 = .ok (.isub, 1) := by decide +kernel
theorem dX12_table_113 : decode cX12_table 113 = .ok (.ireturn, 1) := by decide +kernel
theorem dX12_columnOf_0 : decode cX12_columnOf 0 = .ok (.aload_n 0, 1) := by decide +kernel
theorem dX12_columnOf_1 : decode cX12_columnOf 1 = .ok (.iconst 0, 1) := by decide +kernel
theorem dX12_columnOf_2 : decode cX12_columnOf 2 = .ok (.putfield 137, 3) := by decide +kernel
theorem dX12_columnOf_5 : decode cX12_columnOf 5 = .ok (.iload_n 1, 1) := by decide +kernel
theorem dX12_columnOf_6 : decode cX12_columnOf 6 = .ok (.i2l, 1) := by decide +kernel
theorem dX12_columnOf_7 : decode cX12_columnOf 7 = .ok (.lconst 0, 1) := by decide +kernel
theorem dX12_columnOf_8 : decode cX12_columnOf 8 = .ok (.aload_n 0, 1) := by decide +kernel
theorem dX12_columnOf_9 : decode cX12_columnOf 9 = .ok (.getfield 134, 3) := by decide +kernel
theorem dX12_columnOf_12 : decode cX12_columnOf 12 = .ok (.iconst 1, 1) := by decide +kernel
theorem dX12_columnOf_13 : decode cX12_columnOf 13 = .ok (.isub, 1) := by decide +kernel
theorem dX12_columnOf_14 : decode cX12_columnOf 14 = .ok (.i2l, 1) := by decide +kernel
theorem dX12_columnOf_15 : decode cX12_columnOf 15 = .ok (.invokestatic 142, 3) := by decide +kernel
theorem dX12_columnOf_18 : decode cX12_columnOf 18 = .ok (.ifCond .ne 5, 3) := by decide +kernel
theorem dX12_columnOf_21 : decode cX12_columnOf 21 = .ok (.iconst (-1), 1) := by decide +kernel
theorem dX12_columnOf_22 : decode cX12_columnOf 22 = .ok (.ireturn, 1) := by decide +kernel
theorem dX12_columnOf_23 : decode cX12_columnOf 23 = .ok (.iload_n 2, 1) := by decide +kernel
theorem dX12_columnOf_24 : decode cX12_columnOf 24 = .ok (.iconst 1, 1) := by decide +kernel
theorem dX12_columnOf_25 : decode cX12_columnOf 25 = .ok (.if_icmp .lt 31, 3) := by decide +kernel
theorem dX12_columnOf_28 : decode cX12_columnOf 28 = .ok (.iload_n 3, 1) := by decide +kernel
theorem dX12_columnOf_29 : decode cX12_columnOf 29 = .ok (.invokestatic 175, 3) := by decide +kernel
theorem dX12_columnOf_32 : decode cX12_columnOf 32 = .ok (.ifCond .eq 24, 3) := by decide +kernel
theorem dX12_columnOf_35 : decode cX12_columnOf 35 = .ok (.iload 4, 2) := by decide +kernel
theorem dX12_columnOf_37 : decode cX12_columnOf 37 = .ok (.i2l, 1) := by decide +kernel
theorem dX12_columnOf_38 : decode cX12_columnOf 38 = .ok (.lconst 0, 1) := by decide +kernel
theorem dX12_columnOf_39 : decode cX12_columnOf 39 = .ok (.ldc2_w 154, 3) := by decide +kernel
theorem dX12_columnOf_42 : decode cX12_columnOf 42 = .ok (.invokestatic 142, 3) := by decide +kernel
theorem dX12_columnOf_45 : decode cX12_columnOf 45 = .ok (.ifCond .eq 11, 3) := by decide +kernel
theorem dX12_columnOf_48 : decode cX12_columnOf 48 = .ok (.lload 5, 2) := by decide +kernel
theorem dX12_columnOf_50 : decode cX12_columnOf 50 = .ok (.lload 7, 2) := by decide +kernel
theorem dX12_columnOf_52 : decode cX12_columnOf 52 = .ok (.lcmp, 1) := by decide +kernel
theorem dX12_columnOf_53 : decode cX12_columnOf 53 = .ok (.ifCond .le 6, 3) := by decide +kernel
theorem dX12_columnOf_56 : decode cX12_columnOf 56 = .ok (.bipush (-2), 2) := by decide +kernel
theorem dX12_columnOf_58 : decode cX12_columnOf 58 = .ok (.ireturn, 1) := by decide +kernel
theorem dX12_columnOf_59 : decode cX12_columnOf 59 = .ok (.aload_n 0, 1) := by decide +kernel
theorem dX12_columnOf_60 : decode cX12_columnOf 60 = .ok (.getfield 74, 3) := by decide +kernel
theorem dX12_columnOf_63 : decode cX12_columnOf 63 = .ok (.iload_n 1, 1) := by decide +kernel
theorem dX12_columnOf_64 : decode cX12_columnOf 64 = .ok (.iaload, 1) := by decide +kernel
theorem dX12_columnOf_65 : decode cX12_columnOf 65 = .ok (.ifCond .le 7, 3) := by decide +kernel
theorem dX12_columnOf_68 : decode cX12_columnOf 68 = .ok (.iconst 1, 1) := by decide +kernel
theorem dX12_columnOf_69 : decode cX12_columnOf 69 = .ok (.goto 4, 3) := by decide +kernel
theorem dX12_columnOf_72 : decode cX12_columnOf 72 = .ok (.iconst 0, 1) := by decide +kernel
theorem dX12_columnOf_73 : decode cX12_columnOf 73 = .ok (.istore 10, 2) := by decide +kernel
theorem dX12_columnOf_75 : decode cX12_columnOf 75 = .ok (.aload_n 0, 1) := by decide +kernel
theorem dX12_columnOf_76 : decode cX12_columnOf 76 = .ok (.getfield 68, 3) := by decide +kernel
theorem dX12_columnOf_79 : decode cX12_columnOf 79 = .ok (.iload_n 1, 1) := by decide +kernel
theorem dX12_columnOf_80 : decode cX12_columnOf 80 = .ok (.iaload, 1) := by decide +kernel
theorem dX12_columnOf_81 : decode cX12_columnOf 81 = .ok (.istore 11, 2) := by decide +kernel
theorem dX12_columnOf_83 : decode cX12_columnOf 83 = .ok (.iconst 0, 1) := by decide +kernel
theorem dX12_columnOf_84 : decode cX12_columnOf 84 = .ok (.istore 12, 2) := by decide +kernel
theorem dX12_columnOf_86 : decode cX12_columnOf 86 = .ok (.iload 12, 2) := by decide +kernel
theorem dX12_columnOf_88 : decode cX12_columnOf 88 = .ok (.aload_n 0, 1) := by decide +kernel
theorem dX12_columnOf_89 : decode cX12_columnOf 89 = .ok (.getfield 160, 3) := by decide +kernel
theorem dX12_columnOf_92 : decode cX12_columnOf 92 = .ok (.if_icmp .ge 66, 3) := by decide +kernel
theorem dX12_columnOf_95 : decode cX12_columnOf 95 = .ok (.iload 10, 2) := by decide +kernel
theorem dX12_columnOf_97 : decode cX12_columnOf 97 = .ok (.ifCond .ne 48, 3) := by decide +kernel
theorem dX12_columnOf_100 : decode cX12_columnOf 100 = .ok (.aload_n 0, 1) := by decide +kernel
theorem dX12_columnOf_101 : decode cX12_columnOf 101 = .ok (.getfield 43, 3) := by decide +kernel
theorem dX12_columnOf_104 : decode cX12_columnOf 104 = .ok (.iload 12, 2) := by decide +kernel
theorem dX12_columnOf_106 : decode cX12_columnOf 106 = .ok (.iaload, 1) := by decide +kernel
theorem dX12_columnOf_107 : decode cX12_columnOf 107 = .ok (.iload_n 1, 1) := by decide +kernel
theorem dX12_columnOf_108 : decode cX12_columnOf 108 = .ok (.if_icmp .ne 41, 3) := by decide +kernel
theorem dX12_columnOf_111 : decode cX12_columnOf 111 = .ok (.aload_n 0, 1) := by decide +kernel
theorem dX12_columnOf_112 : decode cX12_columnOf 112 = .ok (.getfield 25, 3) := by decide +kernel
theorem dX12_columnOf_115 : decode cX12_columnOf 115 = .ok (.bipush 16, 2) := by decide +kernel
theorem dX12_columnOf_117 : decode cX12_columnOf 117 = .ok (.iload 12, 2) := by decide +kernel
theorem dX12_columnOf_119 : decode cX12_columnOf 119 = .ok (.imul, 1) := by decide +kernel
theorem dX12_columnOf_120 : decode cX12_columnOf 120 = .ok (.iload 11, 2) := by decide +kernel
theorem dX12_columnOf_122 : decode cX12_columnOf 122 = .ok (.iadd, 1) := by decide +kernel
theorem dX12_columnOf_123 : decode cX12_columnOf 123 = .ok (.laload, 1) := by decide +kernel
theorem dX12_columnOf_124 : decode cX12_columnOf 124 = .ok (.iload_n 2, 1) := by decide +kernel
theorem dX12_columnOf_125 : decode cX12_columnOf 125 = .ok (.i2l, 1) := by decide +kernel
theorem dX12_columnOf_126 : decode cX12_columnOf 126 = .ok (.lcmp, 1) := by decide +kernel
theorem dX12_columnOf_127 : decode cX12_columnOf 127 = .ok (.ifCond .eq 18, 3) := by decide +kernel
theorem dX12_columnOf_130 : decode cX12_columnOf 130 = .ok (.iload 9, 2) := by decide +kernel
theorem dX12_columnOf_132 : decode cX12_columnOf 132 = .ok (.ifCond .eq 17, 3) := by decide +kernel
theorem dX12_columnOf_135 : decode cX12_columnOf 135 = .ok (.aload_n 0, 1) := by decide +kernel
theorem dX12_columnOf_136 : decode cX12_columnOf 136 = .ok (.getfield 46, 3) := by decide +kernel
theorem dX12_columnOf_139 : decode cX12_columnOf 139 = .ok (.iload 12, 2) := by decide +kernel
theorem dX12_columnOf_141 : decode cX12_columnOf 141 = .ok (.baload, 1) := by decide +kernel
theorem dX12_columnOf_142 : decode cX12_columnOf 142 = .ok (.ifCond .eq 7, 3) := by decide +kernel
theorem dX12_columnOf_145 : decode cX12_columnOf 145 = .ok (.iconst 1, 1) := by decide +kernel
theorem dX12_columnOf_146 : decode cX12_columnOf 146 = .ok (.goto 4, 3) := by decide +kernel
theorem dX12_columnOf_149 : decode cX12_columnOf 149 = .ok (.iconst 0, 1) := by decide +kernel
theorem dX12_columnOf_150 : decode cX12_columnOf 150 = .ok (.istore 10, 2) := by decide +kernel
theorem dX12_columnOf_152 : decode cX12_columnOf 152 = .ok (.iinc 12 1, 3) := by decide +kernel
theorem dX12_columnOf_155 : decode cX12_columnOf 155 = .ok (.goto (-69), 3) := by decide +kernel
theorem dX12_columnOf_158 : decode cX12_columnOf 158 = .ok (.iload 10, 2) := by decide +kernel
theorem dX12_columnOf_160 : decode cX12_columnOf 160 = .ok (.ifCond .eq 6, 3) := by decide +kernel
theorem dX12_columnOf_163 : decode cX12_columnOf 163 = .ok (.bipush (-3), 2) := by decide +kernel
theorem dX12_columnOf_165 : decode cX12_columnOf 165 = .ok (.ireturn, 1) := by decide +kernel
theorem dX12_columnOf_166 : decode cX12_columnOf 166 = .ok (.aload_n 0, 1) := by decide +kernel
theorem dX12_columnOf_167 : decode cX12_columnOf 167 = .ok (.getfield 71, 3) := by decide +kernel
theorem dX12_columnOf_170 : decode cX12_columnOf 170 = .ok (.iload_n 1, 1) := by decide +kernel
theorem dX12_columnOf_171 : decode cX12_columnOf 171 = .ok (.iaload, 1) := by decide +kernel
theorem dX12_columnOf_172 : decode cX12_columnOf 172 = .ok (.bipush 6, 2) := by decide +kernel
theorem dX12_columnOf_174 : decode cX12_columnOf 174 = .ok (.if_icmp .eq 12, 3) := by decide +kernel
theorem dX12_columnOf_177 : decode cX12_columnOf 177 = .ok (.aload_n 0, 1) := by decide +kernel
theorem dX12_columnOf_178 : decode cX12_columnOf 178 = .ok (.getfield 160, 3) := by decide +kernel
theorem dX12_columnOf_181 : decode cX12_columnOf 181 = .ok (.bipush 40, 2) := by decide +kernel
theorem dX12_columnOf_183 : decode cX12_columnOf 183 = .ok (.if_icmp .ne 6, 3) := by decide +kernel
theorem dX12_columnOf_186 : decode cX12_columnOf 186 = .ok (.bipush (-4), 2) := by decide +kernel
theorem dX12_columnOf_188 : decode cX12_columnOf 188 = .ok (.ireturn, 1) := by decide +kernel
theorem dX12_columnOf_189 : decode cX12_columnOf 189 = .ok (.iconst 0, 1) := by decide +kernel
theorem dX12_columnOf_190 : decode cX12_columnOf 190 = .ok (.istore 12, 2) := by decide +kernel
theorem dX12_columnOf_192 : decode cX12_columnOf 192 = .ok (.iload 12, 2) := by decide +kernel
theorem dX12_columnOf_194 : decode cX12_columnOf 194 = .ok (.iload 11, 2) := by decide +kernel
theorem dX12_columnOf_196 : decode cX12_columnOf 196 = .ok (.if_icmp .ge 36, 3) := by decide +kernel
theorem dX12_columnOf_199 : decode cX12_columnOf 199 = .ok (.aload_n 0, 1) := by decide +kernel
theorem dX12_columnOf_200 : decode cX12_columnOf 200 = .ok (.getfield 25, 3) := by decide +kernel
theorem dX12_columnOf_203 : decode cX12_columnOf 203 = .ok (.bipush 16, 2) := by decide +kernel
theorem dX12_columnOf_205 : decode cX12_columnOf 205 = .ok (.aload_n 0, 1) := by decide +kernel
theorem dX12_columnOf_206 : decode cX12_columnOf 206 = .ok (.getfield 160, 3) := by decide +kernel
theorem dX12_columnOf_209 : decode cX12_columnOf 209 = .ok (.imul, 1) := by decide +kernel
theorem dX12_columnOf_210 : decode cX12_columnOf 210 = .ok (.iload 12, 2) := by decide +kernel
theorem dX12_columnOf_212 : decode cX12_columnOf 212 = .ok (.iadd, 1) := by decide +kernel
theorem dX12_columnOf_213 : decode cX12_columnOf 213 = .ok (.aload_n 0, 1) := by decide +kernel
theorem dX12_columnOf_214 : decode cX12_columnOf 214 = .ok (.getfield 65, 3) := by decide +kernel
theorem dX12_columnOf_217 : decode cX12_columnOf 217 = .ok (.bipush 16, 2) := by decide +kernel
theorem dX12_columnOf_219 : decode cX12_columnOf 219 = .ok (.iload_n 1, 1) := by decide +kernel
theorem dX12_columnOf_220 : decode cX12_columnOf 220 = .ok (.imul, 1) := by decide +kernel
theorem dX12_columnOf_221 : decode cX12_columnOf 221 = .ok (.iload 12, 2) := by decide +kernel
theorem dX12_columnOf_223 : decode cX12_columnOf 223 = .ok (.iadd, 1) := by decide +kernel
theorem dX12_columnOf_224 : decode cX12_columnOf 224 = .ok (.laload, 1) := by decide +kernel
theorem dX12_columnOf_225 : decode cX12_columnOf 225 = .ok (.lastore, 1) := by decide +kernel
theorem dX12_columnOf_226 : decode cX12_columnOf 226 = .ok (.iinc 12 1, 3) := by decide +kernel
theorem dX12_columnOf_229 : decode cX12_columnOf 229 = .ok (.goto (-37), 3) := by decide +kernel
theorem dX12_columnOf_232 : decode cX12_columnOf 232 = .ok (.aload_n 0, 1) := by decide +kernel
theorem dX12_columnOf_233 : decode cX12_columnOf 233 = .ok (.getfield 25, 3) := by decide +kernel
theorem dX12_columnOf_236 : decode cX12_columnOf 236 = .ok (.bipush 16, 2) := by decide +kernel
theorem dX12_columnOf_238 : decode cX12_columnOf 238 = .ok (.aload_n 0, 1) := by decide +kernel
theorem dX12_columnOf_239 : decode cX12_columnOf 239 = .ok (.getfield 160, 3) := by decide +kernel
theorem dX12_columnOf_242 : decode cX12_columnOf 242 = .ok (.imul, 1) := by decide +kernel
theorem dX12_columnOf_243 : decode cX12_columnOf 243 = .ok (.iload 11, 2) := by decide +kernel
theorem dX12_columnOf_245 : decode cX12_columnOf 245 = .ok (.iadd, 1) := by decide +kernel
theorem dX12_columnOf_246 : decode cX12_columnOf 246 = .ok (.iload_n 2, 1) := by decide +kernel
theorem dX12_columnOf_247 : decode cX12_columnOf 247 = .ok (.i2l, 1) := by decide +kernel
theorem dX12_columnOf_248 : decode cX12_columnOf 248 = .ok (.lastore, 1) := by decide +kernel
theorem dX12_columnOf_249 : decode cX12_columnOf 249 = .ok (.aload_n 0, 1) := by decide +kernel
theorem dX12_columnOf_250 : decode cX12_columnOf 250 = .ok (.getfield 28, 3) := by decide +kernel
theorem dX12_columnOf_253 : decode cX12_columnOf 253 = .ok (.aload_n 0, 1) := by decide +kernel
theorem dX12_columnOf_254 : decode cX12_columnOf 254 = .ok (.getfield 160, 3) := by decide +kernel
theorem dX12_columnOf_257 : decode cX12_columnOf 257 = .ok (.iload 11, 2) := by decide +kernel
theorem dX12_columnOf_259 : decode cX12_columnOf 259 = .ok (.iconst 1, 1) := by decide +kernel
theorem dX12_columnOf_260 : decode cX12_columnOf 260 = .ok (.iadd, 1) := by decide +kernel
theorem dX12_columnOf_261 : decode cX12_columnOf 261 = .ok (.iastore, 1) := by decide +kernel
theorem dX12_columnOf_262 : decode cX12_columnOf 262 = .ok (.aload_n 0, 1) := by decide +kernel
theorem dX12_columnOf_263 : decode cX12_columnOf 263 = .ok (.getfield 71, 3) := by decide +kernel
theorem dX12_columnOf_266 : decode cX12_columnOf 266 = .ok (.iload_n 1, 1) := by decide +kernel
theorem dX12_columnOf_267 : decode cX12_columnOf 267 = .ok (.dup2, 1) := by decide +kernel
theorem dX12_columnOf_268 : decode cX12_columnOf 268 = .ok (.iaload, 1) := by decide +kernel
theorem dX12_columnOf_269 : decode cX12_columnOf 269 = .ok (.iconst 1, 1) := by decide +kernel
theorem dX12_columnOf_270 : decode cX12_columnOf 270 = .ok (.iadd, 1) := by decide +kernel
theorem dX12_columnOf_271 : decode cX12_columnOf 271 = .ok (.iastore, 1) := by decide +kernel
theorem dX12_columnOf_272 : decode cX12_columnOf 272 = .ok (.aload_n 0, 1) := by decide +kernel
theorem dX12_columnOf_273 : decode cX12_columnOf 273 = .ok (.iload_n 3, 1) := by decide +kernel
theorem dX12_columnOf_274 : decode cX12_columnOf 274 = .ok (.iload 4, 2) := by decide +kernel
theorem dX12_columnOf_276 : decode cX12_columnOf 276 = .ok (.lload 5, 2) := by decide +kernel
theorem dX12_columnOf_278 : decode cX12_columnOf 278 = .ok (.lload 7, 2) := by decide +kernel
theorem dX12_columnOf_280 : decode cX12_columnOf 280 = .ok (.iload_n 1, 1) := by decide +kernel
theorem dX12_columnOf_281 : decode cX12_columnOf 281 = .ok (.iload 9, 2) := by decide +kernel
theorem dX12_columnOf_283 : decode cX12_columnOf 283 = .ok (.invokevirtual 184, 3) := by decide +kernel
theorem dX12_columnOf_286 : decode cX12_columnOf 286 = .ok (.ireturn, 1) := by decide +kernel
theorem dX12_column_0 : decode cX12_column 0 = .ok (.aload_n 0, 1) := by decide +kernel
theorem dX12_column_1 : decode cX12_column 1 = .ok (.iload_n 1, 1) := by decide +kernel
theorem dX12_column_2 : decode cX12_column 2 = .ok (.iload_n 2, 1) := by decide +kernel
theorem dX12_column_3 : decode cX12_column 3 = .ok (.iload_n 3, 1) := by decide +kernel
theorem dX12_column_4 : decode cX12_column 4 = .ok (.iload 4, 2) := by decide +kernel
theorem dX12_column_6 : decode cX12_column 6 = .ok (.lload 5, 2) := by decide +kernel
theorem dX12_column_8 : decode cX12_column 8 = .ok (.lload 7, 2) := by decide +kernel
theorem dX12_column_10 : decode cX12_column 10 = .ok (.iconst 0, 1) := by decide +kernel
theorem dX12_column_11 : decode cX12_column 11 = .ok (.invokevirtual 190, 3) := by decide +kernel
theorem dX12_column_14 : decode cX12_column 14 = .ok (.ireturn, 1) := by decide +kernel
theorem dX12_status_0 : decode cX12_status 0 = .ok (.aload_n 0, 1) := by decide +kernel
theorem dX12_status_1 : decode cX12_status 1 = .ok (.iload_n 1, 1) := by decide +kernel
theorem dX12_status_2 : decode cX12_status 2 = .ok (.iload_n 2, 1) := by decide +kernel
theorem dX12_status_3 : decode cX12_status 3 = .ok (.iconst 2, 1) := by decide +kernel
theorem dX12_status_4 : decode cX12_status 4 = .ok (.iconst 2, 1) := by decide +kernel
theorem dX12_status_5 : decode cX12_status 5 = .ok (.lconst 1, 1) := by decide +kernel
theorem dX12_status_6 : decode cX12_status 6 = .ok (.ldc2_w 194, 3) := by decide +kernel
theorem dX12_status_9 : decode cX12_status 9 = .ok (.iconst 1, 1) := by decide +kernel
theorem dX12_status_10 : decode cX12_status 10 = .ok (.invokevirtual 190, 3) := by decide +kernel
theorem dX12_status_13 : decode cX12_status 13 = .ok (.ireturn, 1) := by decide +kernel
theorem dX12_placeOf_0 : decode cX12_placeOf 0 = .ok (.iconst 0, 1) := by decide +kernel
theorem dX12_placeOf_1 : decode cX12_placeOf 1 = .ok (.istore 4, 2) := by decide +kernel
theorem dX12_placeOf_3 : decode cX12_placeOf 3 = .ok (.iload 4, 2) := by decide +kernel
theorem dX12_placeOf_5 : decode cX12_placeOf 5 = .ok (.bipush 16, 2) := by decide +kernel
theorem dX12_placeOf_7 : decode cX12_placeOf 7 = .ok (.if_icmp .ge 36, 3) := by decide +kernel
theorem dX12_placeOf_10 : decode cX12_placeOf 10 = .ok (.aload_n 0, 1) := by decide +kernel
theorem dX12_placeOf_11 : decode cX12_placeOf 11 = .ok (.getfield 77, 3) := by decide +kernel
theorem dX12_placeOf_14 : decode cX12_placeOf 14 = .ok (.bipush 16, 2) := by decide +kernel
theorem dX12_placeOf_16 : decode cX12_placeOf 16 = .ok (.iload_n 1, 1) := by decide +kernel
theorem dX12_placeOf_17 : decode cX12_placeOf 17 = .ok (.imul, 1) := by decide +kernel
theorem dX12_placeOf_18 : decode cX12_placeOf 18 = .ok (.iload 4, 2) := by decide +kernel
theorem dX12_placeOf_20 : decode cX12_placeOf 20 = .ok (.iadd, 1) := by decide +kernel
theorem dX12_placeOf_21 : decode cX12_placeOf 21 = .ok (.iaload, 1) := by decide +kernel
theorem dX12_placeOf_22 : decode cX12_placeOf 22 = .ok (.i2l, 1) := by decide +kernel
theorem dX12_placeOf_23 : decode cX12_placeOf 23 = .ok (.lload_n 2, 1) := by decide +kernel
theorem dX12_placeOf_24 : decode cX12_placeOf 24 = .ok (.lcmp, 1) := by decide +kernel
theorem dX12_placeOf_25 : decode cX12_placeOf 25 = .ok (.ifCond .ne 12, 3) := by decide +kernel
theorem dX12_placeOf_28 : decode cX12_placeOf 28 = .ok (.lload_n 2, 1) := by decide +kernel
theorem dX12_placeOf_29 : decode cX12_placeOf 29 = .ok (.lconst 0, 1) := by decide +kernel
theorem dX12_placeOf_30 : decode cX12_placeOf 30 = .ok (.lcmp, 1) := by decide +kernel
theorem dX12_placeOf_31 : decode cX12_placeOf 31 = .ok (.ifCond .le 6, 3) := by decide +kernel
theorem dX12_placeOf_34 : decode cX12_placeOf 34 = .ok (.iload 4, 2) := by decide +kernel
theorem dX12_placeOf_36 : decode cX12_placeOf 36 = .ok (.ireturn, 1) := by decide +kernel
theorem dX12_placeOf_37 : decode cX12_placeOf 37 = .ok (.iinc 4 1, 3) := by decide +kernel
theorem dX12_placeOf_40 : decode cX12_placeOf 40 = .ok (.goto (-37), 3) := by decide +kernel
theorem dX12_placeOf_43 : decode cX12_placeOf 43 = .ok (.iconst (-1), 1) := by decide +kernel
theorem dX12_placeOf_44 : decode cX12_placeOf 44 = .ok (.ireturn, 1) := by decide +kernel
theorem dX12_makeRow_0 : decode cX12_makeRow 0 = .ok (.iconst 0, 1) := by decide +kernel
theorem dX12_makeRow_1 : decode cX12_makeRow 1 = .ok (.istore 5, 2) := by decide +kernel
theorem dX12_makeRow_3 : decode cX12_makeRow 3 = .ok (.aload_n 0, 1) := by decide +kernel
theorem dX12_makeRow_4 : decode cX12_makeRow 4 = .ok (.getfield 77, 3) := by decide +kernel
theorem dX12_makeRow_7 : decode cX12_makeRow 7 = .ok (.bipush 16, 2) := by decide +kernel
theorem dX12_makeRow_9 : decode cX12_makeRow 9 = .ok (.iload_n 1, 1) := by decide +kernel
theorem dX12_makeRow_10 : decode cX12_makeRow 10 = .ok (.imul, 1) := by decide +kernel
theorem dX12_makeRow_11 : decode cX12_makeRow 11 = .ok (.iload 5, 2) := by decide +kernel
theorem dX12_makeRow_13 : decode cX12_makeRow 13 = .ok (.iadd, 1) := by decide +kernel
theorem dX12_makeRow_14 : decode cX12_makeRow 14 = .ok (.iaload, 1) := by decide +kernel
theorem dX12_makeRow_15 : decode cX12_makeRow 15 = .ok (.ifCond .le 9, 3) := by decide +kernel
theorem dX12_makeRow_18 : decode cX12_makeRow 18 = .ok (.iinc 5 1, 3) := by decide +kernel
theorem dX12_makeRow_21 : decode cX12_makeRow 21 = .ok (.goto (-18), 3) := by decide +kernel
theorem dX12_makeRow_24 : decode cX12_makeRow 24 = .ok (.aload_n 0, 1) := by decide +kernel
theorem dX12_makeRow_25 : decode cX12_makeRow 25 = .ok (.getfield 77, 3) := by decide +kernel
theorem dX12_makeRow_28 : decode cX12_makeRow 28 = .ok (.bipush 16, 2) := by decide +kernel
theorem dX12_makeRow_30 : decode cX12_makeRow 30 = .ok (.iload_n 1, 1) := by decide +kernel
theorem dX12_makeRow_31 : decode cX12_makeRow 31 = .ok (.imul, 1) := by decide +kernel
theorem dX12_makeRow_32 : decode cX12_makeRow 32 = .ok (.iload 5, 2) := by decide +kernel
theorem dX12_makeRow_34 : decode cX12_makeRow 34 = .ok (.iadd, 1) := by decide +kernel
theorem dX12_makeRow_35 : decode cX12_makeRow 35 = .ok (.iload_n 2, 1) := by decide +kernel
theorem dX12_makeRow_36 : decode cX12_makeRow 36 = .ok (.iastore, 1) := by decide +kernel
theorem dX12_makeRow_37 : decode cX12_makeRow 37 = .ok (.aload_n 0, 1) := by decide +kernel
theorem dX12_makeRow_38 : decode cX12_makeRow 38 = .ok (.getfield 74, 3) := by decide +kernel
theorem dX12_makeRow_41 : decode cX12_makeRow 41 = .ok (.iload_n 1, 1) := by decide +kernel
theorem dX12_makeRow_42 : decode cX12_makeRow 42 = .ok (.dup2, 1) := by decide +kernel
theorem dX12_makeRow_43 : decode cX12_makeRow 43 = .ok (.iaload, 1) := by decide +kernel
theorem dX12_makeRow_44 : decode cX12_makeRow 44 = .ok (.iconst 1, 1) := by decide +kernel
theorem dX12_makeRow_45 : decode cX12_makeRow 45 = .ok (.iadd, 1) := by decide +kernel
theorem dX12_makeRow_46 : decode cX12_makeRow 46 = .ok (.iastore, 1) := by decide +kernel
theorem dX12_makeRow_47 : decode cX12_makeRow 47 = .ok (.iconst 0, 1) := by decide +kernel
theorem dX12_makeRow_48 : decode cX12_makeRow 48 = .ok (.istore 6, 2) := by decide +kernel
theorem dX12_makeRow_50 : decode cX12_makeRow 50 = .ok (.iload 6, 2) := by decide +kernel
theorem dX12_makeRow_52 : decode cX12_makeRow 52 = .ok (.aload_n 0, 1) := by decide +kernel
theorem dX12_makeRow_53 : decode cX12_makeRow 53 = .ok (.getfield 160, 3) := by decide +kernel
theorem dX12_makeRow_56 : decode cX12_makeRow 56 = .ok (.if_icmp .ge 56, 3) := by decide +kernel
theorem dX12_makeRow_59 : decode cX12_makeRow 59 = .ok (.aload_n 0, 1) := by decide +kernel
theorem dX12_makeRow_60 : decode cX12_makeRow 60 = .ok (.getfield 43, 3) := by decide +kernel
theorem dX12_makeRow_63 : decode cX12_makeRow 63 = .ok (.iload 6, 2) := by decide +kernel
theorem dX12_makeRow_65 : decode cX12_makeRow 65 = .ok (.iaload, 1) := by decide +kernel
theorem dX12_makeRow_66 : decode cX12_makeRow 66 = .ok (.iload_n 1, 1) := by decide +kernel
theorem dX12_makeRow_67 : decode cX12_makeRow 67 = .ok (.if_icmp .ne 39, 3) := by decide +kernel
theorem dX12_makeRow_70 : decode cX12_makeRow 70 = .ok (.aload_n 0, 1) := by decide +kernel
theorem dX12_makeRow_71 : decode cX12_makeRow 71 = .ok (.iload 6, 2) := by decide +kernel
theorem dX12_makeRow_73 : decode cX12_makeRow 73 = .ok (.iload 5, 2) := by decide +kernel
theorem dX12_makeRow_75 : decode cX12_makeRow 75 = .ok (.invokevirtual 171, 3) := by decide +kernel
theorem dX12_makeRow_78 : decode cX12_makeRow 78 = .ok (.aload_n 0, 1) := by decide +kernel
theorem dX12_makeRow_79 : decode cX12_makeRow 79 = .ok (.getfield 50, 3) := by decide +kernel
theorem dX12_makeRow_82 : decode cX12_makeRow 82 = .ok (.bipush 16, 2) := by decide +kernel
theorem dX12_makeRow_84 : decode cX12_makeRow 84 = .ok (.iload 6, 2) := by decide +kernel
theorem dX12_makeRow_86 : decode cX12_makeRow 86 = .ok (.imul, 1) := by decide +kernel
theorem dX12_makeRow_87 : decode cX12_makeRow 87 = .ok (.iload 5, 2) := by decide +kernel
theorem dX12_makeRow_89 : decode cX12_makeRow 89 = .ok (.iadd, 1) := by decide +kernel
theorem dX12_makeRow_90 : decode cX12_makeRow 90 = .ok (.aload_n 0, 1) := by decide +kernel
theorem dX12_makeRow_91 : decode cX12_makeRow 91 = .ok (.getfield 46, 3) := by decide +kernel
theorem dX12_makeRow_94 : decode cX12_makeRow 94 = .ok (.iload 6, 2) := by decide +kernel
theorem dX12_makeRow_96 : decode cX12_makeRow 96 = .ok (.baload, 1) := by decide +kernel
theorem dX12_makeRow_97 : decode cX12_makeRow 97 = .ok (.ifCond .eq 7, 3) := by decide +kernel
theorem dX12_makeRow_100 : decode cX12_makeRow 100 = .ok (.lload_n 3, 1) := by decide +kernel
theorem dX12_makeRow_101 : decode cX12_makeRow 101 = .ok (.goto 4, 3) := by decide +kernel
theorem dX12_makeRow_104 : decode cX12_makeRow 104 = .ok (.lconst 0, 1) := by decide +kernel
theorem dX12_makeRow_105 : decode cX12_makeRow 105 = .ok (.lastore, 1) := by decide +kernel
theorem dX12_makeRow_106 : decode cX12_makeRow 106 = .ok (.iinc 6 1, 3) := by decide +kernel
theorem dX12_makeRow_109 : decode cX12_makeRow 109 = .ok (.goto (-59), 3) := by decide +kernel
theorem dX12_makeRow_112 : decode cX12_makeRow 112 = .ok (.return_, 1) := by decide +kernel
theorem dX12_dropRow_0 : decode cX12_dropRow 0 = .ok (.aload_n 0, 1) := by decide +kernel
theorem dX12_dropRow_1 : decode cX12_dropRow 1 = .ok (.getfield 77, 3) := by decide +kernel
theorem dX12_dropRow_4 : decode cX12_dropRow 4 = .ok (.bipush 16, 2) := by decide +kernel
theorem dX12_dropRow_6 : decode cX12_dropRow 6 = .ok (.iload_n 1, 1) := by decide +kernel
theorem dX12_dropRow_7 : decode cX12_dropRow 7 = .ok (.imul, 1) := by decide +kernel
theorem dX12_dropRow_8 : decode cX12_dropRow 8 = .ok (.iload_n 2, 1) := by decide +kernel
theorem dX12_dropRow_9 : decode cX12_dropRow 9 = .ok (.iadd, 1) := by decide +kernel
theorem dX12_dropRow_10 : decode cX12_dropRow 10 = .ok (.iconst 0, 1) := by decide +kernel
theorem dX12_dropRow_11 : decode cX12_dropRow 11 = .ok (.iastore, 1) := by decide +kernel
theorem dX12_dropRow_12 : decode cX12_dropRow 12 = .ok (.aload_n 0, 1) := by decide +kernel
theorem dX12_dropRow_13 : decode cX12_dropRow 13 = .ok (.getfield 74, 3) := by decide +kernel
theorem dX12_dropRow_16 : decode cX12_dropRow 16 = .ok (.iload_n 1, 1) := by decide +kernel
theorem dX12_dropRow_17 : decode cX12_dropRow 17 = .ok (.dup2, 1) := by decide +kernel
theorem dX12_dropRow_18 : decode cX12_dropRow 18 = .ok (.iaload, 1) := by decide +kernel
theorem dX12_dropRow_19 : decode cX12_dropRow 19 = .ok (.iconst 1, 1) := by decide +kernel
theorem dX12_dropRow_20 : decode cX12_dropRow 20 = .ok (.isub, 1) := by decide +kernel
theorem dX12_dropRow_21 : decode cX12_dropRow 21 = .ok (.iastore, 1) := by decide +kernel
theorem dX12_dropRow_22 : decode cX12_dropRow 22 = .ok (.return_, 1) := by decide +kernel
theorem dX12_row_0 : decode cX12_row 0 = .ok (.aload_n 0, 1) := by decide +kernel
theorem dX12_row_1 : decode cX12_row 1 = .ok (.iconst 0, 1) := by decide +kernel
theorem dX12_row_2 : decode cX12_row 2 = .ok (.putfield 137, 3) := by decide +kernel
theorem dX12_row_5 : decode cX12_row 5 = .ok (.iload_n 1, 1) := by decide +kernel
theorem dX12_row_6 : decode cX12_row 6 = .ok (.i2l, 1) := by decide +kernel
theorem dX12_row_7 : decode cX12_row 7 = .ok (.lconst 0, 1) := by decide +kernel
theorem dX12_row_8 : decode cX12_row 8 = .ok (.aload_n 0, 1) := by decide +kernel
theorem dX12_row_9 : decode cX12_row 9 = .ok (.getfield 134, 3) := by decide +kernel
theorem dX12_row_12 : decode cX12_row 12 = .ok (.iconst 1, 1) := by decide +kernel
theorem dX12_row_13 : decode cX12_row 13 = .ok (.isub, 1) := by decide +kernel
theorem dX12_row_14 : decode cX12_row 14 = .ok (.i2l, 1) := by decide +kernel
theorem dX12_row_15 : decode cX12_row 15 = .ok (.invokestatic 142, 3) := by decide +kernel
theorem dX12_row_18 : decode cX12_row 18 = .ok (.ifCond .ne 5, 3) := by decide +kernel
theorem dX12_row_21 : decode cX12_row 21 = .ok (.iconst (-1), 1) := by decide +kernel
theorem dX12_row_22 : decode cX12_row 22 = .ok (.ireturn, 1) := by decide +kernel
theorem dX12_row_23 : decode cX12_row 23 = .ok (.iload_n 2, 1) := by decide +kernel
theorem dX12_row_24 : decode cX12_row 24 = .ok (.iconst 1, 1) := by decide +kernel
theorem dX12_row_25 : decode cX12_row 25 = .ok (.if_icmp .ge 6, 3) := by decide +kernel
theorem dX12_row_28 : decode cX12_row 28 = .ok (.bipush (-2), 2) := by decide +kernel
theorem dX12_row_30 : decode cX12_row 30 = .ok (.ireturn, 1) := by decide +kernel
theorem dX12_row_31 : decode cX12_row 31 = .ok (.aload_n 0, 1) := by decide +kernel
theorem dX12_row_32 : decode cX12_row 32 = .ok (.iload_n 1, 1) := by decide +kernel
theorem dX12_row_33 : decode cX12_row 33 = .ok (.iload_n 2, 1) := by decide +kernel
theorem dX12_row_34 : decode cX12_row 34 = .ok (.i2l, 1) := by decide +kernel
theorem dX12_row_35 : decode cX12_row 35 = .ok (.invokevirtual 196, 3) := by decide +kernel
theorem dX12_row_38 : decode cX12_row 38 = .ok (.istore 4, 2) := by decide +kernel
theorem dX12_row_40 : decode cX12_row 40 = .ok (.iload 4, 2) := by decide +kernel
theorem dX12_row_42 : decode cX12_row 42 = .ok (.ifCond .lt 7, 3) := by decide +kernel
theorem dX12_row_45 : decode cX12_row 45 = .ok (.iconst 1, 1) := by decide +kernel
theorem dX12_row_46 : decode cX12_row 46 = .ok (.goto 4, 3) := by decide +kernel
theorem dX12_row_49 : decode cX12_row 49 = .ok (.iconst 0, 1) := by decide +kernel
theorem dX12_row_50 : decode cX12_row 50 = .ok (.iload_n 3, 1) := by decide +kernel
theorem dX12_row_51 : decode cX12_row 51 = .ok (.if_icmp .ne 5, 3) := by decide +kernel
theorem dX12_row_54 : decode cX12_row 54 = .ok (.iconst 0, 1) := by decide +kernel
theorem dX12_row_55 : decode cX12_row 55 = .ok (.ireturn, 1) := by decide +kernel
theorem dX12_row_56 : decode cX12_row 56 = .ok (.iload_n 3, 1) := by decide +kernel
theorem dX12_row_57 : decode cX12_row 57 = .ok (.ifCond .ne 12, 3) := by decide +kernel
theorem dX12_row_60 : decode cX12_row 60 = .ok (.aload_n 0, 1) := by decide +kernel
theorem dX12_row_61 : decode cX12_row 61 = .ok (.iload_n 1, 1) := by decide +kernel
theorem dX12_row_62 : decode cX12_row 62 = .ok (.iload 4, 2) := by decide +kernel
theorem dX12_row_64 : decode cX12_row 64 = .ok (.invokevirtual 200, 3) := by decide +kernel
theorem dX12_row_67 : decode cX12_row 67 = .ok (.iconst 1, 1) := by decide +kernel
theorem dX12_row_68 : decode cX12_row 68 = .ok (.ireturn, 1) := by decide +kernel
theorem dX12_row_69 : decode cX12_row 69 = .ok (.aload_n 0, 1) := by decide +kernel
theorem dX12_row_70 : decode cX12_row 70 = .ok (.getfield 74, 3) := by decide +kernel
theorem dX12_row_73 : decode cX12_row 73 = .ok (.iload_n 1, 1) := by decide +kernel
theorem dX12_row_74 : decode cX12_row 74 = .ok (.iaload, 1) := by decide +kernel
theorem dX12_row_75 : decode cX12_row 75 = .ok (.bipush 16, 2) := by decide +kernel
theorem dX12_row_77 : decode cX12_row 77 = .ok (.if_icmp .ne 6, 3) := by decide +kernel
theorem dX12_row_80 : decode cX12_row 80 = .ok (.bipush (-4), 2) := by decide +kernel
theorem dX12_row_82 : decode cX12_row 82 = .ok (.ireturn, 1) := by decide +kernel
theorem dX12_row_83 : decode cX12_row 83 = .ok (.aload_n 0, 1) := by decide +kernel
theorem dX12_row_84 : decode cX12_row 84 = .ok (.iload_n 1, 1) := by decide +kernel
theorem dX12_row_85 : decode cX12_row 85 = .ok (.iload_n 2, 1) := by decide +kernel
theorem dX12_row_86 : decode cX12_row 86 = .ok (.lconst 1, 1) := by decide +kernel
theorem dX12_row_87 : decode cX12_row 87 = .ok (.invokevirtual 203, 3) := by decide +kernel
theorem dX12_row_90 : decode cX12_row 90 = .ok (.iconst 1, 1) := by decide +kernel
theorem dX12_row_91 : decode cX12_row 91 = .ok (.ireturn, 1) := by decide +kernel
theorem dX12_instance_0 : decode cX12_instance 0 = .ok (.iload_n 1, 1) := by decide +kernel
theorem dX12_instance_1 : decode cX12_instance 1 = .ok (.i2l, 1) := by decide +kernel
theorem dX12_instance_2 : decode cX12_instance 2 = .ok (.lconst 0, 1) := by decide +kernel
theorem dX12_instance_3 : decode cX12_instance 3 = .ok (.aload_n 0, 1) := by decide +kernel
theorem dX12_instance_4 : decode cX12_instance 4 = .ok (.getfield 160, 3) := by decide +kernel
theorem dX12_instance_7 : decode cX12_instance 7 = .ok (.iconst 1, 1) := by decide +kernel
theorem dX12_instance_8 : decode cX12_instance 8 = .ok (.isub, 1) := by decide +kernel
theorem dX12_instance_9 : decode cX12_instance 9 = .ok (.i2l, 1) := by decide +kernel
theorem dX12_instance_10 : decode cX12_instance 10 = .ok (.invokestatic 142, 3) := by decide +kernel
theorem dX12_instance_13 : decode cX12_instance 13 = .ok (.ifCond .ne 5, 3) := by decide +kernel
theorem dX12_instance_16 : decode cX12_instance 16 = .ok (.iconst (-1), 1) := by decide +kernel
theorem dX12_instance_17 : decode cX12_instance 17 = .ok (.ireturn, 1) := by decide +kernel
theorem dX12_instance_18 : decode cX12_instance 18 = .ok (.aload_n 0, 1) := by decide +kernel
theorem dX12_instance_19 : decode cX12_instance 19 = .ok (.getfield 43, 3) := by decide +kernel
theorem dX12_instance_22 : decode cX12_instance 22 = .ok (.iload_n 1, 1) := by decide +kernel
theorem dX12_instance_23 : decode cX12_instance 23 = .ok (.iaload, 1) := by decide +kernel
theorem dX12_instance_24 : decode cX12_instance 24 = .ok (.ifCond .ge 16, 3) := by decide +kernel
theorem dX12_instance_27 : decode cX12_instance 27 = .ok (.iload_n 2, 1) := by decide +kernel
theorem dX12_instance_28 : decode cX12_instance 28 = .ok (.ifCond .ne 10, 3) := by decide +kernel
theorem dX12_instance_31 : decode cX12_instance 31 = .ok (.bipush 16, 2) := by decide +kernel
theorem dX12_instance_33 : decode cX12_instance 33 = .ok (.iload_n 1, 1) := by decide +kernel
theorem dX12_instance_34 : decode cX12_instance 34 = .ok (.imul, 1) := by decide +kernel
theorem dX12_instance_35 : decode cX12_instance 35 = .ok (.goto 4, 3) := by decide +kernel
theorem dX12_instance_38 : decode cX12_instance 38 = .ok (.iconst (-1), 1) := by decide +kernel
theorem dX12_instance_39 : decode cX12_instance 39 = .ok (.ireturn, 1) := by decide +kernel
theorem dX12_instance_40 : decode cX12_instance 40 = .ok (.aload_n 0, 1) := by decide +kernel
theorem dX12_instance_41 : decode cX12_instance 41 = .ok (.aload_n 0, 1) := by decide +kernel
theorem dX12_instance_42 : decode cX12_instance 42 = .ok (.getfield 43, 3) := by decide +kernel
theorem dX12_instance_45 : decode cX12_instance 45 = .ok (.iload_n 1, 1) := by decide +kernel
theorem dX12_instance_46 : decode cX12_instance 46 = .ok (.iaload, 1) := by decide +kernel
theorem dX12_instance_47 : decode cX12_instance 47 = .ok (.iload_n 2, 1) := by decide +kernel
theorem dX12_instance_48 : decode cX12_instance 48 = .ok (.i2l, 1) := by decide +kernel
theorem dX12_instance_49 : decode cX12_instance 49 = .ok (.invokevirtual 196, 3) := by decide +kernel
theorem dX12_instance_52 : decode cX12_instance 52 = .ok (.istore_n 3, 1) := by decide +kernel
theorem dX12_instance_53 : decode cX12_instance 53 = .ok (.iload_n 3, 1) := by decide +kernel
theorem dX12_instance_54 : decode cX12_instance 54 = .ok (.ifCond .ge 7, 3) := by decide +kernel
theorem dX12_instance_57 : decode cX12_instance 57 = .ok (.iconst (-1), 1) := by decide +kernel
theorem dX12_instance_58 : decode cX12_instance 58 = .ok (.goto 9, 3) := by decide +kernel
theorem dX12_instance_61 : decode cX12_instance 61 = .ok (.bipush 16, 2) := by decide +kernel
theorem dX12_instance_63 : decode cX12_instance 63 = .ok (.iload_n 1, 1) := by decide +kernel
theorem dX12_instance_64 : decode cX12_instance 64 = .ok (.imul, 1) := by decide +kernel
theorem dX12_instance_65 : decode cX12_instance 65 = .ok (.iload_n 3, 1) := by decide +kernel
theorem dX12_instance_66 : decode cX12_instance 66 = .ok (.iadd, 1) := by decide +kernel
theorem dX12_instance_67 : decode cX12_instance 67 = .ok (.ireturn, 1) := by decide +kernel
theorem dX12_value_0 : decode cX12_value 0 = .ok (.aload_n 0, 1) := by decide +kernel
theorem dX12_value_1 : decode cX12_value 1 = .ok (.iconst 0, 1) := by decide +kernel
theorem dX12_value_2 : decode cX12_value 2 = .ok (.putfield 137, 3) := by decide +kernel
theorem dX12_value_5 : decode cX12_value 5 = .ok (.aload_n 0, 1) := by decide +kernel
theorem dX12_value_6 : decode cX12_value 6 = .ok (.iload_n 1, 1) := by decide +kernel
theorem dX12_value_7 : decode cX12_value 7 = .ok (.iload_n 2, 1) := by decide +kernel
theorem dX12_value_8 : decode cX12_value 8 = .ok (.invokevirtual 207, 3) := by decide +kernel
theorem dX12_value_11 : decode cX12_value 11 = .ok (.istore 5, 2) := by decide +kernel
theorem dX12_value_13 : decode cX12_value 13 = .ok (.iload 5, 2) := by decide +kernel
theorem dX12_value_15 : decode cX12_value 15 = .ok (.ifCond .lt 33, 3) := by decide +kernel
theorem dX12_value_18 : decode cX12_value 18 = .ok (.aload_n 0, 1) := by decide +kernel
theorem dX12_value_19 : decode cX12_value 19 = .ok (.getfield 31, 3) := by decide +kernel
theorem dX12_value_22 : decode cX12_value 22 = .ok (.iload_n 1, 1) := by decide +kernel
theorem dX12_value_23 : decode cX12_value 23 = .ok (.iaload, 1) := by decide +kernel
theorem dX12_value_24 : decode cX12_value 24 = .ok (.iconst 4, 1) := by decide +kernel
theorem dX12_value_25 : decode cX12_value 25 = .ok (.if_icmp .eq 23, 3) := by decide +kernel
theorem dX12_value_28 : decode cX12_value 28 = .ok (.aload_n 0, 1) := by decide +kernel
theorem dX12_value_29 : decode cX12_value 29 = .ok (.getfield 31, 3) := by decide +kernel
theorem dX12_value_32 : decode cX12_value 32 = .ok (.iload_n 1, 1) := by decide +kernel
theorem dX12_value_33 : decode cX12_value 33 = .ok (.iaload, 1) := by decide +kernel
theorem dX12_value_34 : decode cX12_value 34 = .ok (.bipush 6, 2) := by decide +kernel
theorem dX12_value_36 : decode cX12_value 36 = .ok (.if_icmp .eq 12, 3) := by decide +kernel
theorem dX12_value_39 : decode cX12_value 39 = .ok (.aload_n 0, 1) := by decide +kernel
theorem dX12_value_40 : decode cX12_value 40 = .ok (.getfield 46, 3) := by decide +kernel
theorem dX12_value_43 : decode cX12_value 43 = .ok (.iload_n 1, 1) := by decide +kernel
theorem dX12_value_44 : decode cX12_value 44 = .ok (.baload, 1) := by decide +kernel
theorem dX12_value_45 : decode cX12_value 45 = .ok (.ifCond .eq 5, 3) := by decide +kernel
theorem dX12_value_48 : decode cX12_value 48 = .ok (.iconst (-1), 1) := by decide +kernel
theorem dX12_value_49 : decode cX12_value 49 = .ok (.ireturn, 1) := by decide +kernel
theorem dX12_value_50 : decode cX12_value 50 = .ok (.aload_n 0, 1) := by decide +kernel
theorem dX12_value_51 : decode cX12_value 51 = .ok (.getfield 31, 3) := by decide +kernel
theorem dX12_value_54 : decode cX12_value 54 = .ok (.iload_n 1, 1) := by decide +kernel
theorem dX12_value_55 : decode cX12_value 55 = .ok (.iaload, 1) := by decide +kernel
theorem dX12_value_56 : decode cX12_value 56 = .ok (.iconst 2, 1) := by decide +kernel
theorem dX12_value_57 : decode cX12_value 57 = .ok (.if_icmp .ne 16, 3) := by decide +kernel
theorem dX12_value_60 : decode cX12_value 60 = .ok (.lload_n 3, 1) := by decide +kernel
theorem dX12_value_61 : decode cX12_value 61 = .ok (.ldc2_w 211, 3) := by decide +kernel
theorem dX12_value_64 : decode cX12_value 64 = .ok (.ldc2_w 213, 3) := by decide +kernel
theorem dX12_value_67 : decode cX12_value 67 = .ok (.invokestatic 142, 3) := by decide +kernel
theorem dX12_value_70 : decode cX12_value 70 = .ok (.ifCond .eq 33, 3) := by decide +kernel
theorem dX12_value_73 : decode cX12_value 73 = .ok (.aload_n 0, 1) := by decide +kernel
theorem dX12_value_74 : decode cX12_value 74 = .ok (.getfield 31, 3) := by decide +kernel
theorem dX12_value_77 : decode cX12_value 77 = .ok (.iload_n 1, 1) := by decide +kernel
theorem dX12_value_78 : decode cX12_value 78 = .ok (.iaload, 1) := by decide +kernel
theorem dX12_value_79 : decode cX12_value 79 = .ok (.i2l, 1) := by decide +kernel
theorem dX12_value_80 : decode cX12_value 80 = .ok (.ldc2_w 215, 3) := by decide +kernel
theorem dX12_value_83 : decode cX12_value 83 = .ok (.ldc2_w 169, 3) := by decide +kernel
theorem dX12_value_86 : decode cX12_value 86 = .ok (.invokestatic 142, 3) := by decide +kernel
theorem dX12_value_89 : decode cX12_value 89 = .ok (.ifCond .eq 17, 3) := by decide +kernel
theorem dX12_value_92 : decode cX12_value 92 = .ok (.lload_n 3, 1) := by decide +kernel
theorem dX12_value_93 : decode cX12_value 93 = .ok (.lconst 0, 1) := by decide +kernel
theorem dX12_value_94 : decode cX12_value 94 = .ok (.ldc2_w 158, 3) := by decide +kernel
theorem dX12_value_97 : decode cX12_value 97 = .ok (.invokestatic 142, 3) := by decide +kernel
theorem dX12_value_100 : decode cX12_value 100 = .ok (.ifCond .ne 6, 3) := by decide +kernel
theorem dX12_value_103 : decode cX12_value 103 = .ok (.bipush (-2), 2) := by decide +kernel
theorem dX12_value_105 : decode cX12_value 105 = .ok (.ireturn, 1) := by decide +kernel
theorem dX12_value_106 : decode cX12_value 106 = .ok (.aload_n 0, 1) := by decide +kernel
theorem dX12_value_107 : decode cX12_value 107 = .ok (.getfield 50, 3) := by decide +kernel
theorem dX12_value_110 : decode cX12_value 110 = .ok (.iload 5, 2) := by decide +kernel
theorem dX12_value_112 : decode cX12_value 112 = .ok (.aload_n 0, 1) := by decide +kernel
theorem dX12_value_113 : decode cX12_value 113 = .ok (.getfield 31, 3) := by decide +kernel
theorem dX12_value_116 : decode cX12_value 116 = .ok (.iload_n 1, 1) := by decide +kernel
theorem dX12_value_117 : decode cX12_value 117 = .ok (.iaload, 1) := by decide +kernel
theorem dX12_value_118 : decode cX12_value 118 = .ok (.bipush 64, 2) := by decide +kernel
theorem dX12_value_120 : decode cX12_value 120 = .ok (.if_icmp .ne 11, 3) := by decide +kernel
theorem dX12_value_123 : decode cX12_value 123 = .ok (.lload_n 3, 1) := by decide +kernel
theorem dX12_value_124 : decode cX12_value 124 = .ok (.ldc2_w 158, 3) := by decide +kernel
theorem dX12_value_127 : decode cX12_value 127 = .ok (.land, 1) := by decide +kernel
theorem dX12_value_128 : decode cX12_value 128 = .ok (.goto 4, 3) := by decide +kernel
theorem dX12_value_131 : decode cX12_value 131 = .ok (.lload_n 3, 1) := by decide +kernel
theorem dX12_value_132 : decode cX12_value 132 = .ok (.lastore, 1) := by decide +kernel
theorem dX12_value_133 : decode cX12_value 133 = .ok (.iconst 1, 1) := by decide +kernel
theorem dX12_value_134 : decode cX12_value 134 = .ok (.ireturn, 1) := by decide +kernel
theorem dX12_text_0 : decode cX12_text 0 = .ok (.aload_n 0, 1) := by decide +kernel
theorem dX12_text_1 : decode cX12_text 1 = .ok (.iconst 0, 1) := by decide +kernel
theorem dX12_text_2 : decode cX12_text 2 = .ok (.putfield 137, 3) := by decide +kernel
theorem dX12_text_5 : decode cX12_text 5 = .ok (.aload_n 0, 1) := by decide +kernel
theorem dX12_text_6 : decode cX12_text 6 = .ok (.getfield 146, 3) := by decide +kernel
theorem dX12_text_9 : decode cX12_text 9 = .ok (.istore_n 3, 1) := by decide +kernel
theorem dX12_text_10 : decode cX12_text 10 = .ok (.aload_n 0, 1) := by decide +kernel
theorem dX12_text_11 : decode cX12_text 11 = .ok (.iconst 0, 1) := by decide +kernel
theorem dX12_text_12 : decode cX12_text 12 = .ok (.putfield 146, 3) := by decide +kernel
theorem dX12_text_15 : decode cX12_text 15 = .ok (.aload_n 0, 1) := by decide +kernel
theorem dX12_text_16 : decode cX12_text 16 = .ok (.iload_n 1, 1) := by decide +kernel
theorem dX12_text_17 : decode cX12_text 17 = .ok (.iload_n 2, 1) := by decide +kernel
theorem dX12_text_18 : decode cX12_text 18 = .ok (.invokevirtual 207, 3) := by decide +kernel
theorem dX12_text_21 : decode cX12_text 21 = .ok (.istore 4, 2) := by decide +kernel
theorem dX12_text_23 : decode cX12_text 23 = .ok (.iload 4, 2) := by decide +kernel
theorem dX12_text_25 : decode cX12_text 25 = .ok (.ifCond .lt 13, 3) := by decide +kernel
theorem dX12_text_28 : decode cX12_text 28 = .ok (.aload_n 0, 1) := by decide +kernel
theorem dX12_text_29 : decode cX12_text 29 = .ok (.getfield 31, 3) := by decide +kernel
theorem dX12_text_32 : decode cX12_text 32 = .ok (.iload_n 1, 1) := by decide +kernel
theorem dX12_text_33 : decode cX12_text 33 = .ok (.iaload, 1) := by decide +kernel
theorem dX12_text_34 : decode cX12_text 34 = .ok (.iconst 4, 1) := by decide +kernel
theorem dX12_text_35 : decode cX12_text 35 = .ok (.if_icmp .eq 5, 3) := by decide +kernel
theorem dX12_text_38 : decode cX12_text 38 = .ok (.iconst (-1), 1) := by decide +kernel
theorem dX12_text_39 : decode cX12_text 39 = .ok (.ireturn, 1) := by decide +kernel
theorem dX12_text_40 : decode cX12_text 40 = .ok (.iload_n 3, 1) := by decide +kernel
theorem dX12_text_41 : decode cX12_text 41 = .ok (.bipush 40, 2) := by decide +kernel
theorem dX12_text_43 : decode cX12_text 43 = .ok (.if_icmp .le 6, 3) := by decide +kernel
theorem dX12_text_46 : decode cX12_text 46 = .ok (.bipush (-2), 2) := by decide +kernel
theorem dX12_text_48 : decode cX12_text 48 = .ok (.ireturn, 1) := by decide +kernel
theorem dX12_text_49 : decode cX12_text 49 = .ok (.iconst 0, 1) := by decide +kernel
theorem dX12_text_50 : decode cX12_text 50 = .ok (.istore 5, 2) := by decide +kernel
theorem dX12_text_52 : decode cX12_text 52 = .ok (.iload 5, 2) := by decide +kernel
theorem dX12_text_54 : decode cX12_text 54 = .ok (.iload_n 3, 1) := by decide +kernel
theorem dX12_text_55 : decode cX12_text 55 = .ok (.if_icmp .ge 29, 3) := by decide +kernel
theorem dX12_text_58 : decode cX12_text 58 = .ok (.aload_n 0, 1) := by decide +kernel
theorem dX12_text_59 : decode cX12_text 59 = .ok (.getfield 53, 3) := by decide +kernel
theorem dX12_text_62 : decode cX12_text 62 = .ok (.bipush 40, 2) := by decide +kernel
theorem dX12_text_64 : decode cX12_text 64 = .ok (.iload 4, 2) := by decide +kernel
theorem dX12_text_66 : decode cX12_text 66 = .ok (.imul, 1) := by decide +kernel
theorem dX12_text_67 : decode cX12_text 67 = .ok (.iload 5, 2) := by decide +kernel
theorem dX12_text_69 : decode cX12_text 69 = .ok (.iadd, 1) := by decide +kernel
theorem dX12_text_70 : decode cX12_text 70 = .ok (.aload_n 0, 1) := by decide +kernel
theorem dX12_text_71 : decode cX12_text 71 = .ok (.getfield 7, 3) := by decide +kernel
theorem dX12_text_74 : decode cX12_text 74 = .ok (.iload 5, 2) := by decide +kernel
theorem dX12_text_76 : decode cX12_text 76 = .ok (.baload, 1) := by decide +kernel
theorem dX12_text_77 : decode cX12_text 77 = .ok (.bastore, 1) := by decide +kernel
theorem dX12_text_78 : decode cX12_text 78 = .ok (.iinc 5 1, 3) := by decide +kernel
theorem dX12_text_81 : decode cX12_text 81 = .ok (.goto (-29), 3) := by decide +kernel
theorem dX12_text_84 : decode cX12_text 84 = .ok (.aload_n 0, 1) := by decide +kernel
theorem dX12_text_85 : decode cX12_text 85 = .ok (.getfield 56, 3) := by decide +kernel
theorem dX12_text_88 : decode cX12_text 88 = .ok (.iload 4, 2) := by decide +kernel
theorem dX12_text_90 : decode cX12_text 90 = .ok (.iload_n 3, 1) := by decide +kernel
theorem dX12_text_91 : decode cX12_text 91 = .ok (.iastore, 1) := by decide +kernel
theorem dX12_text_92 : decode cX12_text 92 = .ok (.iload_n 3, 1) := by decide +kernel
theorem dX12_text_93 : decode cX12_text 93 = .ok (.ireturn, 1) := by decide +kernel
theorem dX12_identity_0 : decode cX12_identity 0 = .ok (.aload_n 0, 1) := by decide +kernel
theorem dX12_identity_1 : decode cX12_identity 1 = .ok (.iconst 0, 1) := by decide +kernel
theorem dX12_identity_2 : decode cX12_identity 2 = .ok (.putfield 137, 3) := by decide +kernel
theorem dX12_identity_5 : decode cX12_identity 5 = .ok (.aload_n 0, 1) := by decide +kernel
theorem dX12_identity_6 : decode cX12_identity 6 = .ok (.getfield 151, 3) := by decide +kernel
theorem dX12_identity_9 : decode cX12_identity 9 = .ok (.istore_n 3, 1) := by decide +kernel
theorem dX12_identity_10 : decode cX12_identity 10 = .ok (.aload_n 0, 1) := by decide +kernel
theorem dX12_identity_11 : decode cX12_identity 11 = .ok (.iconst 0, 1) := by decide +kernel
theorem dX12_identity_12 : decode cX12_identity 12 = .ok (.putfield 151, 3) := by decide +kernel
theorem dX12_identity_15 : decode cX12_identity 15 = .ok (.aload_n 0, 1) := by decide +kernel
theorem dX12_identity_16 : decode cX12_identity 16 = .ok (.iload_n 1, 1) := by decide +kernel
theorem dX12_identity_17 : decode cX12_identity 17 = .ok (.iload_n 2, 1) := by decide +kernel
theorem dX12_identity_18 : decode cX12_identity 18 = .ok (.invokevirtual 207, 3) := by decide +kernel
theorem dX12_identity_21 : decode cX12_identity 21 = .ok (.istore 4, 2) := by decide +kernel
theorem dX12_identity_23 : decode cX12_identity 23 = .ok (.iload 4, 2) := by decide +kernel
theorem dX12_identity_25 : decode cX12_identity 25 = .ok (.ifCond .lt 14, 3) := by decide +kernel
theorem dX12_identity_28 : decode cX12_identity 28 = .ok (.aload_n 0, 1) := by decide +kernel
theorem dX12_identity_29 : decode cX12_identity 29 = .ok (.getfield 31, 3) := by decide +kernel
theorem dX12_identity_32 : decode cX12_identity 32 = .ok (.iload_n 1, 1) := by decide +kernel
theorem dX12_identity_33 : decode cX12_identity 33 = .ok (.iaload, 1) := by decide +kernel
theorem dX12_identity_34 : decode cX12_identity 34 = .ok (.bipush 6, 2) := by decide +kernel
theorem dX12_identity_36 : decode cX12_identity 36 = .ok (.if_icmp .eq 5, 3) := by decide +kernel
theorem dX12_identity_39 : decode cX12_identity 39 = .ok (.iconst (-1), 1) := by decide +kernel
theorem dX12_identity_40 : decode cX12_identity 40 = .ok (.ireturn, 1) := by decide +kernel
theorem dX12_identity_41 : decode cX12_identity 41 = .ok (.iload_n 3, 1) := by decide +kernel
theorem dX12_identity_42 : decode cX12_identity 42 = .ok (.i2l, 1) := by decide +kernel
theorem dX12_identity_43 : decode cX12_identity 43 = .ok (.ldc2_w 154, 3) := by decide +kernel
theorem dX12_identity_46 : decode cX12_identity 46 = .ok (.ldc2_w 217, 3) := by decide +kernel
theorem dX12_identity_49 : decode cX12_identity 49 = .ok (.invokestatic 142, 3) := by decide +kernel
theorem dX12_identity_52 : decode cX12_identity 52 = .ok (.ifCond .ne 6, 3) := by decide +kernel
theorem dX12_identity_55 : decode cX12_identity 55 = .ok (.bipush (-2), 2) := by decide +kernel
theorem dX12_identity_57 : decode cX12_identity 57 = .ok (.ireturn, 1) := by decide +kernel
theorem dX12_identity_58 : decode cX12_identity 58 = .ok (.iconst 0, 1) := by decide +kernel
theorem dX12_identity_59 : decode cX12_identity 59 = .ok (.istore 5, 2) := by decide +kernel
theorem dX12_identity_61 : decode cX12_identity 61 = .ok (.iload 5, 2) := by decide +kernel
theorem dX12_identity_63 : decode cX12_identity 63 = .ok (.iload_n 3, 1) := by decide +kernel
theorem dX12_identity_64 : decode cX12_identity 64 = .ok (.if_icmp .ge 29, 3) := by decide +kernel
theorem dX12_identity_67 : decode cX12_identity 67 = .ok (.aload_n 0, 1) := by decide +kernel
theorem dX12_identity_68 : decode cX12_identity 68 = .ok (.getfield 59, 3) := by decide +kernel
theorem dX12_identity_71 : decode cX12_identity 71 = .ok (.bipush 16, 2) := by decide +kernel
theorem dX12_identity_73 : decode cX12_identity 73 = .ok (.iload 4, 2) := by decide +kernel
theorem dX12_identity_75 : decode cX12_identity 75 = .ok (.imul, 1) := by decide +kernel
theorem dX12_identity_76 : decode cX12_identity 76 = .ok (.iload 5, 2) := by decide +kernel
theorem dX12_identity_78 : decode cX12_identity 78 = .ok (.iadd, 1) := by decide +kernel
theorem dX12_identity_79 : decode cX12_identity 79 = .ok (.aload_n 0, 1) := by decide +kernel
theorem dX12_identity_80 : decode cX12_identity 80 = .ok (.getfield 13, 3) := by decide +kernel
theorem dX12_identity_83 : decode cX12_identity 83 = .ok (.iload 5, 2) := by decide +kernel
theorem dX12_identity_85 : decode cX12_identity 85 = .ok (.laload, 1) := by decide +kernel
theorem dX12_identity_86 : decode cX12_identity 86 = .ok (.lastore, 1) := by decide +kernel
theorem dX12_identity_87 : decode cX12_identity 87 = .ok (.iinc 5 1, 3) := by decide +kernel
theorem dX12_identity_90 : decode cX12_identity 90 = .ok (.goto (-29), 3) := by decide +kernel
theorem dX12_identity_93 : decode cX12_identity 93 = .ok (.aload_n 0, 1) := by decide +kernel
theorem dX12_identity_94 : decode cX12_identity 94 = .ok (.getfield 62, 3) := by decide +kernel
theorem dX12_identity_97 : decode cX12_identity 97 = .ok (.iload 4, 2) := by decide +kernel
theorem dX12_identity_99 : decode cX12_identity 99 = .ok (.iload_n 3, 1) := by decide +kernel
theorem dX12_identity_100 : decode cX12_identity 100 = .ok (.iastore, 1) := by decide +kernel
theorem dX12_identity_101 : decode cX12_identity 101 = .ok (.iload_n 3, 1) := by decide +kernel
theorem dX12_identity_102 : decode cX12_identity 102 = .ok (.ireturn, 1) := by decide +kernel
theorem dX12_communityOf_0 : decode cX12_communityOf 0 = .ok (.iconst 0, 1) := by decide +kernel
theorem dX12_communityOf_1 : decode cX12_communityOf 1 = .ok (.istore 4, 2) := by decide +kernel
theorem dX12_communityOf_3 : decode cX12_communityOf 3 = .ok (.iload 4, 2) := by decide +kernel
theorem dX12_communityOf_5 : decode cX12_communityOf 5 = .ok (.aload_n 0, 1) := by decide +kernel
theorem dX12_communityOf_6 : decode cX12_communityOf 6 = .ok (.getfield 219, 3) := by decide +kernel
theorem dX12_communityOf_9 : decode cX12_communityOf 9 = .ok (.if_icmp .ge 84, 3) := by decide +kernel
theorem dX12_communityOf_12 : decode cX12_communityOf 12 = .ok (.aload_n 0, 1) := by decide +kernel
theorem dX12_communityOf_13 : decode cX12_communityOf 13 = .ok (.getfield 83, 3) := by decide +kernel
theorem dX12_communityOf_16 : decode cX12_communityOf 16 = .ok (.iload 4, 2) := by decide +kernel
theorem dX12_communityOf_18 : decode cX12_communityOf 18 = .ok (.iaload, 1) := by decide +kernel
theorem dX12_communityOf_19 : decode cX12_communityOf 19 = .ok (.iload_n 3, 1) := by decide +kernel
theorem dX12_communityOf_20 : decode cX12_communityOf 20 = .ok (.if_icmp .ne 7, 3) := by decide +kernel
theorem dX12_communityOf_23 : decode cX12_communityOf 23 = .ok (.iconst 1, 1) := by decide +kernel
theorem dX12_communityOf_24 : decode cX12_communityOf 24 = .ok (.goto 4, 3) := by decide +kernel
theorem dX12_communityOf_27 : decode cX12_communityOf 27 = .ok (.iconst 0, 1) := by decide +kernel
theorem dX12_communityOf_28 : decode cX12_communityOf 28 = .ok (.istore 5, 2) := by decide +kernel
theorem dX12_communityOf_30 : decode cX12_communityOf 30 = .ok (.iconst 0, 1) := by decide +kernel
theorem dX12_communityOf_31 : decode cX12_communityOf 31 = .ok (.istore 6, 2) := by decide +kernel
theorem dX12_communityOf_33 : decode cX12_communityOf 33 = .ok (.iload 6, 2) := by decide +kernel
theorem dX12_communityOf_35 : decode cX12_communityOf 35 = .ok (.iload_n 3, 1) := by decide +kernel
theorem dX12_communityOf_36 : decode cX12_communityOf 36 = .ok (.if_icmp .ge 43, 3) := by decide +kernel
theorem dX12_communityOf_39 : decode cX12_communityOf 39 = .ok (.iload 5, 2) := by decide +kernel
theorem dX12_communityOf_41 : decode cX12_communityOf 41 = .ok (.ifCond .eq 38, 3) := by decide +kernel
theorem dX12_communityOf_44 : decode cX12_communityOf 44 = .ok (.aload_n 0, 1) := by decide +kernel
theorem dX12_communityOf_45 : decode cX12_communityOf 45 = .ok (.getfield 80, 3) := by decide +kernel
theorem dX12_communityOf_48 : decode cX12_communityOf 48 = .ok (.bipush 40, 2) := by decide +kernel
theorem dX12_communityOf_50 : decode cX12_communityOf 50 = .ok (.iload 4, 2) := by decide +kernel
theorem dX12_communityOf_52 : decode cX12_communityOf 52 = .ok (.imul, 1) := by decide +kernel
theorem dX12_communityOf_53 : decode cX12_communityOf 53 = .ok (.iload 6, 2) := by decide +kernel
theorem dX12_communityOf_55 : decode cX12_communityOf 55 = .ok (.iadd, 1) := by decide +kernel
theorem dX12_communityOf_56 : decode cX12_communityOf 56 = .ok (.baload, 1) := by decide +kernel
theorem dX12_communityOf_57 : decode cX12_communityOf 57 = .ok (.aload_n 1, 1) := by decide +kernel
theorem dX12_communityOf_58 : decode cX12_communityOf 58 = .ok (.iload_n 2, 1) := by decide +kernel
theorem dX12_communityOf_59 : decode cX12_communityOf 59 = .ok (.iload 6, 2) := by decide +kernel
theorem dX12_communityOf_61 : decode cX12_communityOf 61 = .ok (.iadd, 1) := by decide +kernel
theorem dX12_communityOf_62 : decode cX12_communityOf 62 = .ok (.baload, 1) := by decide +kernel
theorem dX12_communityOf_63 : decode cX12_communityOf 63 = .ok (.if_icmp .ne 7, 3) := by decide +kernel
theorem dX12_communityOf_66 : decode cX12_communityOf 66 = .ok (.iconst 1, 1) := by decide +kernel
theorem dX12_communityOf_67 : decode cX12_communityOf 67 = .ok (.goto 4, 3) := by decide +kernel
theorem dX12_communityOf_70 : decode cX12_communityOf 70 = .ok (.iconst 0, 1) := by decide +kernel
theorem dX12_communityOf_71 : decode cX12_communityOf 71 = .ok (.istore 5, 2) := by decide +kernel
theorem dX12_communityOf_73 : decode cX12_communityOf 73 = .ok (.iinc 6 1, 3) := by decide +kernel
theorem dX12_communityOf_76 : decode cX12_communityOf 76 = .ok (.goto (-43), 3) := by decide +kernel
theorem dX12_communityOf_79 : decode cX12_communityOf 79 = .ok (.iload 5, 2) := by decide +kernel
theorem dX12_communityOf_81 : decode cX12_communityOf 81 = .ok (.ifCond .eq 6, 3) := by decide +kernel
theorem dX12_communityOf_84 : decode cX12_communityOf 84 = .ok (.iload 4, 2) := by decide +kernel
theorem dX12_communityOf_86 : decode cX12_communityOf 86 = .ok (.ireturn, 1) := by decide +kernel
theorem dX12_communityOf_87 : decode cX12_communityOf 87 = .ok (.iinc 4 1, 3) := by decide +kernel
theorem dX12_communityOf_90 : decode cX12_communityOf 90 = .ok (.goto (-87), 3) := by decide +kernel
theorem dX12_communityOf_93 : decode cX12_communityOf 93 = .ok (.iconst (-1), 1) := by decide +kernel
theorem dX12_communityOf_94 : decode cX12_communityOf 94 = .ok (.ireturn, 1) := by decide +kernel
theorem dX12_community_0 : decode cX12_community 0 = .ok (.aload_n 0, 1) := by decide +kernel
theorem dX12_community_1 : decode cX12_community 1 = .ok (.iconst 0, 1) := by decide +kernel
theorem dX12_community_2 : decode cX12_community 2 = .ok (.putfield 137, 3) := by decide +kernel
theorem dX12_community_5 : decode cX12_community 5 = .ok (.aload_n 0, 1) := by decide +kernel
theorem dX12_community_6 : decode cX12_community 6 = .ok (.getfield 146, 3) := by decide +kernel
theorem dX12_community_9 : decode cX12_community 9 = .ok (.istore_n 2, 1) := by decide +kernel
theorem dX12_community_10 : decode cX12_community 10 = .ok (.aload_n 0, 1) := by decide +kernel
theorem dX12_community_11 : decode cX12_community 11 = .ok (.iconst 0, 1) := by decide +kernel
theorem dX12_community_12 : decode cX12_community 12 = .ok (.putfield 146, 3) := by decide +kernel
theorem dX12_community_15 : decode cX12_community 15 = .ok (.iload_n 2, 1) := by decide +kernel
theorem dX12_community_16 : decode cX12_community 16 = .ok (.bipush 40, 2) := by decide +kernel
theorem dX12_community_18 : decode cX12_community 18 = .ok (.if_icmp .le 6, 3) := by decide +kernel
theorem dX12_community_21 : decode cX12_community 21 = .ok (.bipush (-2), 2) := by decide +kernel
theorem dX12_community_23 : decode cX12_community 23 = .ok (.ireturn, 1) := by decide +kernel
theorem dX12_community_24 : decode cX12_community 24 = .ok (.aload_n 0, 1) := by decide +kernel
theorem dX12_community_25 : decode cX12_community 25 = .ok (.aload_n 0, 1) := by decide +kernel
theorem dX12_community_26 : decode cX12_community 26 = .ok (.getfield 7, 3) := by decide +kernel
theorem dX12_community_29 : decode cX12_community 29 = .ok (.iconst 0, 1) := by decide +kernel
theorem dX12_community_30 : decode cX12_community 30 = .ok (.iload_n 2, 1) := by decide +kernel
theorem dX12_community_31 : decode cX12_community 31 = .ok (.invokevirtual 222, 3) := by decide +kernel
theorem dX12_community_34 : decode cX12_community 34 = .ok (.ifCond .lt 6, 3) := by decide +kernel
theorem dX12_community_37 : decode cX12_community 37 = .ok (.bipush (-3), 2) := by decide +kernel
theorem dX12_community_39 : decode cX12_community 39 = .ok (.ireturn, 1) := by decide +kernel
theorem dX12_community_40 : decode cX12_community 40 = .ok (.aload_n 0, 1) := by decide +kernel
theorem dX12_community_41 : decode cX12_community 41 = .ok (.getfield 219, 3) := by decide +kernel
theorem dX12_community_44 : decode cX12_community 44 = .ok (.bipush 8, 2) := by decide +kernel
theorem dX12_community_46 : decode cX12_community 46 = .ok (.if_icmp .ne 6, 3) := by decide +kernel
theorem dX12_community_49 : decode cX12_community 49 = .ok (.bipush (-4), 2) := by decide +kernel
theorem dX12_community_51 : decode cX12_community 51 = .ok (.ireturn, 1) := by decide +kernel
theorem dX12_community_52 : decode cX12_community 52 = .ok (.iconst 0, 1) := by decide +kernel
theorem dX12_community_53 : decode cX12_community 53 = .ok (.istore_n 3, 1) := by decide +kernel
theorem dX12_community_54 : decode cX12_community 54 = .ok (.iload_n 3, 1) := by decide +kernel
theorem dX12_community_55 : decode cX12_community 55 = .ok (.iload_n 2, 1) := by decide +kernel
theorem dX12_community_56 : decode cX12_community 56 = .ok (.if_icmp .ge 29, 3) := by decide +kernel
theorem dX12_community_59 : decode cX12_community 59 = .ok (.aload_n 0, 1) := by decide +kernel
theorem dX12_community_60 : decode cX12_community 60 = .ok (.getfield 80, 3) := by decide +kernel
theorem dX12_community_63 : decode cX12_community 63 = .ok (.bipush 40, 2) := by decide +kernel
theorem dX12_community_65 : decode cX12_community 65 = .ok (.aload_n 0, 1) := by decide +kernel
theorem dX12_community_66 : decode cX12_community 66 = .ok (.getfield 219, 3) := by decide +kernel
theorem dX12_community_69 : decode cX12_community 69 = .ok (.imul, 1) := by decide +kernel
theorem dX12_community_70 : decode cX12_community 70 = .ok (.iload_n 3, 1) := by decide +kernel
theorem dX12_community_71 : decode cX12_community 71 = .ok (.iadd, 1) := by decide +kernel
theorem dX12_community_72 : decode cX12_community 72 = .ok (.aload_n 0, 1) := by decide +kernel
theorem dX12_community_73 : decode cX12_community 73 = .ok (.getfield 7, 3) := by decide +kernel
theorem dX12_community_76 : decode cX12_community 76 = .ok (.iload_n 3, 1) := by decide +kernel
theorem dX12_community_77 : decode cX12_community 77 = .ok (.baload, 1) := by decide +kernel
theorem dX12_community_78 : decode cX12_community 78 = .ok (.bastore, 1) := by decide +kernel
theorem dX12_community_79 : decode cX12_community 79 = .ok (.iinc 3 1, 3) := by decide +kernel
theorem dX12_community_82 : decode cX12_community 82 = .ok (.goto (-28), 3) := by decide +kernel
theorem dX12_community_85 : decode cX12_community 85 = .ok (.aload_n 0, 1) := by decide +kernel
theorem dX12_community_86 : decode cX12_community 86 = .ok (.getfield 83, 3) := by decide +kernel
theorem dX12_community_89 : decode cX12_community 89 = .ok (.aload_n 0, 1) := by decide +kernel
theorem dX12_community_90 : decode cX12_community 90 = .ok (.getfield 219, 3) := by decide +kernel
theorem dX12_community_93 : decode cX12_community 93 = .ok (.iload_n 2, 1) := by decide +kernel
theorem dX12_community_94 : decode cX12_community 94 = .ok (.iastore, 1) := by decide +kernel
theorem dX12_community_95 : decode cX12_community 95 = .ok (.aload_n 0, 1) := by decide +kernel
theorem dX12_community_96 : decode cX12_community 96 = .ok (.getfield 86, 3) := by decide +kernel
theorem dX12_community_99 : decode cX12_community 99 = .ok (.aload_n 0, 1) := by decide +kernel
theorem dX12_community_100 : decode cX12_community 100 = .ok (.getfield 219, 3) := by decide +kernel
theorem dX12_community_103 : decode cX12_community 103 = .ok (.iload_n 1, 1) := by decide +kernel
theorem dX12_community_104 : decode cX12_community 104 = .ok (.bastore, 1) := by decide +kernel
theorem dX12_community_105 : decode cX12_community 105 = .ok (.aload_n 0, 1) := by decide +kernel
theorem dX12_community_106 : decode cX12_community 106 = .ok (.dup, 1) := by decide +kernel
theorem dX12_community_107 : decode cX12_community 107 = .ok (.getfield 219, 3) := by decide +kernel
theorem dX12_community_110 : decode cX12_community 110 = .ok (.iconst 1, 1) := by decide +kernel
theorem dX12_community_111 : decode cX12_community 111 = .ok (.iadd, 1) := by decide +kernel
theorem dX12_community_112 : decode cX12_community 112 = .ok (.putfield 219, 3) := by decide +kernel
theorem dX12_community_115 : decode cX12_community 115 = .ok (.aload_n 0, 1) := by decide +kernel
theorem dX12_community_116 : decode cX12_community 116 = .ok (.getfield 219, 3) := by decide +kernel
theorem dX12_community_119 : decode cX12_community 119 = .ok (.iconst 1, 1) := by decide +kernel
theorem dX12_community_120 : decode cX12_community 120 = .ok (.isub, 1) := by decide +kernel
theorem dX12_community_121 : decode cX12_community 121 = .ok (.ireturn, 1) := by decide +kernel
theorem dX12_view_0 : decode cX12_view 0 = .ok (.aload_n 0, 1) := by decide +kernel
theorem dX12_view_1 : decode cX12_view 1 = .ok (.iconst 0, 1) := by decide +kernel
theorem dX12_view_2 : decode cX12_view 2 = .ok (.putfield 137, 3) := by decide +kernel
theorem dX12_view_5 : decode cX12_view 5 = .ok (.aload_n 0, 1) := by decide +kernel
theorem dX12_view_6 : decode cX12_view 6 = .ok (.getfield 151, 3) := by decide +kernel
theorem dX12_view_9 : decode cX12_view 9 = .ok (.istore_n 3, 1) := by decide +kernel
theorem dX12_view_10 : decode cX12_view 10 = .ok (.aload_n 0, 1) := by decide +kernel
theorem dX12_view_11 : decode cX12_view 11 = .ok (.iconst 0, 1) := by decide +kernel
theorem dX12_view_12 : decode cX12_view 12 = .ok (.putfield 151, 3) := by decide +kernel
theorem dX12_view_15 : decode cX12_view 15 = .ok (.iload_n 1, 1) := by decide +kernel
theorem dX12_view_16 : decode cX12_view 16 = .ok (.i2l, 1) := by decide +kernel
theorem dX12_view_17 : decode cX12_view 17 = .ok (.lconst 0, 1) := by decide +kernel
theorem dX12_view_18 : decode cX12_view 18 = .ok (.aload_n 0, 1) := by decide +kernel
theorem dX12_view_19 : decode cX12_view 19 = .ok (.getfield 219, 3) := by decide +kernel
theorem dX12_view_22 : decode cX12_view 22 = .ok (.iconst 1, 1) := by decide +kernel
theorem dX12_view_23 : decode cX12_view 23 = .ok (.isub, 1) := by decide +kernel
theorem dX12_view_24 : decode cX12_view 24 = .ok (.i2l, 1) := by decide +kernel
theorem dX12_view_25 : decode cX12_view 25 = .ok (.invokestatic 142, 3) := by decide +kernel
theorem dX12_view_28 : decode cX12_view 28 = .ok (.ifCond .ne 5, 3) := by decide +kernel
theorem dX12_view_31 : decode cX12_view 31 = .ok (.iconst (-1), 1) := by decide +kernel
theorem dX12_view_32 : decode cX12_view 32 = .ok (.ireturn, 1) := by decide +kernel
theorem dX12_view_33 : decode cX12_view 33 = .ok (.iload_n 3, 1) := by decide +kernel
theorem dX12_view_34 : decode cX12_view 34 = .ok (.i2l, 1) := by decide +kernel
theorem dX12_view_35 : decode cX12_view 35 = .ok (.ldc2_w 154, 3) := by decide +kernel
theorem dX12_view_38 : decode cX12_view 38 = .ok (.ldc2_w 217, 3) := by decide +kernel
theorem dX12_view_41 : decode cX12_view 41 = .ok (.invokestatic 142, 3) := by decide +kernel
theorem dX12_view_44 : decode cX12_view 44 = .ok (.ifCond .ne 6, 3) := by decide +kernel
theorem dX12_view_47 : decode cX12_view 47 = .ok (.bipush (-2), 2) := by decide +kernel
theorem dX12_view_49 : decode cX12_view 49 = .ok (.ireturn, 1) := by decide +kernel
theorem dX12_view_50 : decode cX12_view 50 = .ok (.aload_n 0, 1) := by decide +kernel
theorem dX12_view_51 : decode cX12_view 51 = .ok (.getfield 89, 3) := by decide +kernel
theorem dX12_view_54 : decode cX12_view 54 = .ok (.iload_n 1, 1) := by decide +kernel
theorem dX12_view_55 : decode cX12_view 55 = .ok (.iaload, 1) := by decide +kernel
theorem dX12_view_56 : decode cX12_view 56 = .ok (.bipush 8, 2) := by decide +kernel
theorem dX12_view_58 : decode cX12_view 58 = .ok (.if_icmp .ne 6, 3) := by decide +kernel
theorem dX12_view_61 : decode cX12_view 61 = .ok (.bipush (-4), 2) := by decide +kernel
theorem dX12_view_63 : decode cX12_view 63 = .ok (.ireturn, 1) := by decide +kernel
theorem dX12_view_64 : decode cX12_view 64 = .ok (.bipush 8, 2) := by decide +kernel
theorem dX12_view_66 : decode cX12_view 66 = .ok (.iload_n 1, 1) := by decide +kernel
theorem dX12_view_67 : decode cX12_view 67 = .ok (.imul, 1) := by decide +kernel
theorem dX12_view_68 : decode cX12_view 68 = .ok (.aload_n 0, 1) := by decide +kernel
theorem dX12_view_69 : decode cX12_view 69 = .ok (.getfield 89, 3) := by decide +kernel
theorem dX12_view_72 : decode cX12_view 72 = .ok (.iload_n 1, 1) := by decide +kernel
theorem dX12_view_73 : decode cX12_view 73 = .ok (.iaload, 1) := by decide +kernel
theorem dX12_view_74 : decode cX12_view 74 = .ok (.iadd, 1) := by decide +kernel
theorem dX12_view_75 : decode cX12_view 75 = .ok (.istore 4, 2) := by decide +kernel
theorem dX12_view_77 : decode cX12_view 77 = .ok (.iconst 0, 1) := by decide +kernel
theorem dX12_view_78 : decode cX12_view 78 = .ok (.istore 5, 2) := by decide +kernel
theorem dX12_view_80 : decode cX12_view 80 = .ok (.iload 5, 2) := by decide +kernel
theorem dX12_view_82 : decode cX12_view 82 = .ok (.iload_n 3, 1) := by decide +kernel
theorem dX12_view_83 : decode cX12_view 83 = .ok (.if_icmp .ge 29, 3) := by decide +kernel
theorem dX12_view_86 : decode cX12_view 86 = .ok (.aload_n 0, 1) := by decide +kernel
theorem dX12_view_87 : decode cX12_view 87 = .ok (.getfield 92, 3) := by decide +kernel
theorem dX12_view_90 : decode cX12_view 90 = .ok (.bipush 16, 2) := by decide +kernel
theorem dX12_view_92 : decode cX12_view 92 = .ok (.iload 4, 2) := by decide +kernel
theorem dX12_view_94 : decode cX12_view 94 = .ok (.imul, 1) := by decide +kernel
theorem dX12_view_95 : decode cX12_view 95 = .ok (.iload 5, 2) := by decide +kernel
theorem dX12_view_97 : decode cX12_view 97 = .ok (.iadd, 1) := by decide +kernel
theorem dX12_view_98 : decode cX12_view 98 = .ok (.aload_n 0, 1) := by decide +kernel
theorem dX12_view_99 : decode cX12_view 99 = .ok (.getfield 13, 3) := by decide +kernel
theorem dX12_view_102 : decode cX12_view 102 = .ok (.iload 5, 2) := by decide +kernel
theorem dX12_view_104 : decode cX12_view 104 = .ok (.laload, 1) := by decide +kernel
theorem dX12_view_105 : decode cX12_view 105 = .ok (.lastore, 1) := by decide +kernel
theorem dX12_view_106 : decode cX12_view 106 = .ok (.iinc 5 1, 3) := by decide +kernel
theorem dX12_view_109 : decode cX12_view 109 = .ok (.goto (-29), 3) := by decide +kernel
theorem dX12_view_112 : decode cX12_view 112 = .ok (.aload_n 0, 1) := by decide +kernel
theorem dX12_view_113 : decode cX12_view 113 = .ok (.getfield 95, 3) := by decide +kernel
theorem dX12_view_116 : decode cX12_view 116 = .ok (.iload 4, 2) := by decide +kernel
theorem dX12_view_118 : decode cX12_view 118 = .ok (.iload_n 3, 1) := by decide +kernel
theorem dX12_view_119 : decode cX12_view 119 = .ok (.iastore, 1) := by decide +kernel
theorem dX12_view_120 : decode cX12_view 120 = .ok (.aload_n 0, 1) := by decide +kernel
theorem dX12_view_121 : decode cX12_view 121 = .ok (.getfield 98, 3) := by decide +kernel
theorem dX12_view_124 : decode cX12_view 124 = .ok (.iload 4, 2) := by decide +kernel
theorem dX12_view_126 : decode cX12_view 126 = .ok (.iload_n 2, 1) := by decide +kernel
theorem dX12_view_127 : decode cX12_view 127 = .ok (.bastore, 1) := by decide +kernel
theorem dX12_view_128 : decode cX12_view 128 = .ok (.aload_n 0, 1) := by decide +kernel
theorem dX12_view_129 : decode cX12_view 129 = .ok (.getfield 89, 3) := by decide +kernel
theorem dX12_view_132 : decode cX12_view 132 = .ok (.iload_n 1, 1) := by decide +kernel
theorem dX12_view_133 : decode cX12_view 133 = .ok (.dup2, 1) := by decide +kernel
theorem dX12_view_134 : decode cX12_view 134 = .ok (.iaload, 1) := by decide +kernel
theorem dX12_view_135 : decode cX12_view 135 = .ok (.iconst 1, 1) := by decide +kernel
theorem dX12_view_136 : decode cX12_view 136 = .ok (.iadd, 1) := by decide +kernel
theorem dX12_view_137 : decode cX12_view 137 = .ok (.iastore, 1) := by decide +kernel
theorem dX12_view_138 : decode cX12_view 138 = .ok (.aload_n 0, 1) := by decide +kernel
theorem dX12_view_139 : decode cX12_view 139 = .ok (.getfield 89, 3) := by decide +kernel
theorem dX12_view_142 : decode cX12_view 142 = .ok (.iload_n 1, 1) := by decide +kernel
theorem dX12_view_143 : decode cX12_view 143 = .ok (.iaload, 1) := by decide +kernel
theorem dX12_view_144 : decode cX12_view 144 = .ok (.ireturn, 1) := by decide +kernel
theorem dX12_limit_0 : decode cX12_limit 0 = .ok (.aload_n 0, 1) := by decide +kernel
theorem dX12_limit_1 : decode cX12_limit 1 = .ok (.iconst 0, 1) := by decide +kernel
theorem dX12_limit_2 : decode cX12_limit 2 = .ok (.putfield 137, 3) := by decide +kernel
theorem dX12_limit_5 : decode cX12_limit 5 = .ok (.iload_n 1, 1) := by decide +kernel
theorem dX12_limit_6 : decode cX12_limit 6 = .ok (.i2l, 1) := by decide +kernel
theorem dX12_limit_7 : decode cX12_limit 7 = .ok (.ldc2_w 226, 3) := by decide +kernel
theorem dX12_limit_10 : decode cX12_limit 10 = .ok (.ldc2_w 228, 3) := by decide +kernel
theorem dX12_limit_13 : decode cX12_limit 13 = .ok (.invokestatic 142, 3) := by decide +kernel
theorem dX12_limit_16 : decode cX12_limit 16 = .ok (.ifCond .ne 6, 3) := by decide +kernel
theorem dX12_limit_19 : decode cX12_limit 19 = .ok (.bipush (-2), 2) := by decide +kernel
theorem dX12_limit_21 : decode cX12_limit 21 = .ok (.ireturn, 1) := by decide +kernel
theorem dX12_limit_22 : decode cX12_limit 22 = .ok (.aload_n 0, 1) := by decide +kernel
theorem dX12_limit_23 : decode cX12_limit 23 = .ok (.getfield 17, 3) := by decide +kernel
theorem dX12_limit_26 : decode cX12_limit 26 = .ok (.istore_n 2, 1) := by decide +kernel
theorem dX12_limit_27 : decode cX12_limit 27 = .ok (.aload_n 0, 1) := by decide +kernel
theorem dX12_limit_28 : decode cX12_limit 28 = .ok (.iload_n 1, 1) := by decide +kernel
theorem dX12_limit_29 : decode cX12_limit 29 = .ok (.putfield 17, 3) := by decide +kernel
theorem dX12_limit_32 : decode cX12_limit 32 = .ok (.iload_n 2, 1) := by decide +kernel
theorem dX12_limit_33 : decode cX12_limit 33 = .ok (.ireturn, 1) := by decide +kernel
theorem dX12_tick_0 : decode cX12_tick 0 = .ok (.aload_n 0, 1) := by decide +kernel
theorem dX12_tick_1 : decode cX12_tick 1 = .ok (.iconst 0, 1) := by decide +kernel
theorem dX12_tick_2 : decode cX12_tick 2 = .ok (.putfield 137, 3) := by decide +kernel
theorem dX12_tick_5 : decode cX12_tick 5 = .ok (.lload_n 1, 1) := by decide +kernel
theorem dX12_tick_6 : decode cX12_tick 6 = .ok (.lconst 0, 1) := by decide +kernel
theorem dX12_tick_7 : decode cX12_tick 7 = .ok (.lcmp, 1) := by decide +kernel
theorem dX12_tick_8 : decode cX12_tick 8 = .ok (.ifCond .lt 16, 3) := by decide +kernel
theorem dX12_tick_11 : decode cX12_tick 11 = .ok (.lload_n 1, 1) := by decide +kernel
theorem dX12_tick_12 : decode cX12_tick 12 = .ok (.ldc2_w 230, 3) := by decide +kernel
theorem dX12_tick_15 : decode cX12_tick 15 = .ok (.aload_n 0, 1) := by decide +kernel
theorem dX12_tick_16 : decode cX12_tick 16 = .ok (.getfield 232, 3) := by decide +kernel
theorem dX12_tick_19 : decode cX12_tick 19 = .ok (.lsub, 1) := by decide +kernel
theorem dX12_tick_20 : decode cX12_tick 20 = .ok (.lcmp, 1) := by decide +kernel
theorem dX12_tick_21 : decode cX12_tick 21 = .ok (.ifCond .le 7, 3) := by decide +kernel
theorem dX12_tick_24 : decode cX12_tick 24 = .ok (.ldc2_w 236, 3) := by decide +kernel
theorem dX12_tick_27 : decode cX12_tick 27 = .ok (.lreturn, 1) := by decide +kernel
theorem dX12_tick_28 : decode cX12_tick 28 = .ok (.aload_n 0, 1) := by decide +kernel
theorem dX12_tick_29 : decode cX12_tick 29 = .ok (.dup, 1) := by decide +kernel
theorem dX12_tick_30 : decode cX12_tick 30 = .ok (.getfield 232, 3) := by decide +kernel
theorem dX12_tick_33 : decode cX12_tick 33 = .ok (.lload_n 1, 1) := by decide +kernel
theorem dX12_tick_34 : decode cX12_tick 34 = .ok (.ladd, 1) := by decide +kernel
theorem dX12_tick_35 : decode cX12_tick 35 = .ok (.putfield 232, 3) := by decide +kernel
theorem dX12_tick_38 : decode cX12_tick 38 = .ok (.aload_n 0, 1) := by decide +kernel
theorem dX12_tick_39 : decode cX12_tick 39 = .ok (.getfield 232, 3) := by decide +kernel
theorem dX12_tick_42 : decode cX12_tick 42 = .ok (.lreturn, 1) := by decide +kernel
theorem dX12_octet_0 : decode cX12_octet 0 = .ok (.aload_n 0, 1) := by decide +kernel
theorem dX12_octet_1 : decode cX12_octet 1 = .ok (.getfield 238, 3) := by decide +kernel
theorem dX12_octet_4 : decode cX12_octet 4 = .ok (.iload_n 1, 1) := by decide +kernel
theorem dX12_octet_5 : decode cX12_octet 5 = .ok (.if_icmp .lt 24, 3) := by decide +kernel
theorem dX12_octet_8 : decode cX12_octet 8 = .ok (.aload_n 0, 1) := by decide +kernel
theorem dX12_octet_9 : decode cX12_octet 9 = .ok (.aload_n 0, 1) := by decide +kernel
theorem dX12_octet_10 : decode cX12_octet 10 = .ok (.getfield 241, 3) := by decide +kernel
theorem dX12_octet_13 : decode cX12_octet 13 = .ok (.ifCond .ne 7, 3) := by decide +kernel
theorem dX12_octet_16 : decode cX12_octet 16 = .ok (.iconst 1, 1) := by decide +kernel
theorem dX12_octet_17 : decode cX12_octet 17 = .ok (.goto 7, 3) := by decide +kernel
theorem dX12_octet_20 : decode cX12_octet 20 = .ok (.aload_n 0, 1) := by decide +kernel
theorem dX12_octet_21 : decode cX12_octet 21 = .ok (.getfield 241, 3) := by decide +kernel
theorem dX12_octet_24 : decode cX12_octet 24 = .ok (.putfield 241, 3) := by decide +kernel
theorem dX12_octet_27 : decode cX12_octet 27 = .ok (.iconst 0, 1) := by decide +kernel
theorem dX12_octet_28 : decode cX12_octet 28 = .ok (.ireturn, 1) := by decide +kernel
theorem dX12_octet_29 : decode cX12_octet 29 = .ok (.aload_n 0, 1) := by decide +kernel
theorem dX12_octet_30 : decode cX12_octet 30 = .ok (.dup, 1) := by decide +kernel
theorem dX12_octet_31 : decode cX12_octet 31 = .ok (.getfield 238, 3) := by decide +kernel
theorem dX12_octet_34 : decode cX12_octet 34 = .ok (.iconst 1, 1) := by decide +kernel
theorem dX12_octet_35 : decode cX12_octet 35 = .ok (.iadd, 1) := by decide +kernel
theorem dX12_octet_36 : decode cX12_octet 36 = .ok (.putfield 238, 3) := by decide +kernel
theorem dX12_octet_39 : decode cX12_octet 39 = .ok (.aload_n 0, 1) := by decide +kernel
theorem dX12_octet_40 : decode cX12_octet 40 = .ok (.getfield 7, 3) := by decide +kernel
theorem dX12_octet_43 : decode cX12_octet 43 = .ok (.aload_n 0, 1) := by decide +kernel
theorem dX12_octet_44 : decode cX12_octet 44 = .ok (.getfield 238, 3) := by decide +kernel
theorem dX12_octet_47 : decode cX12_octet 47 = .ok (.iconst 1, 1) := by decide +kernel
theorem dX12_octet_48 : decode cX12_octet 48 = .ok (.isub, 1) := by decide +kernel
theorem dX12_octet_49 : decode cX12_octet 49 = .ok (.baload, 1) := by decide +kernel
theorem dX12_octet_50 : decode cX12_octet 50 = .ok (.sipush 255, 3) := by decide +kernel
theorem dX12_octet_53 : decode cX12_octet 53 = .ok (.iand, 1) := by decide +kernel
theorem dX12_octet_54 : decode cX12_octet 54 = .ok (.ireturn, 1) := by decide +kernel
theorem dX12_field_0 : decode cX12_field 0 = .ok (.aload_n 0, 1) := by decide +kernel
theorem dX12_field_1 : decode cX12_field 1 = .ok (.iload_n 2, 1) := by decide +kernel
theorem dX12_field_2 : decode cX12_field 2 = .ok (.invokevirtual 244, 3) := by decide +kernel
theorem dX12_field_5 : decode cX12_field 5 = .ok (.istore_n 3, 1) := by decide +kernel
theorem dX12_field_6 : decode cX12_field 6 = .ok (.aload_n 0, 1) := by decide +kernel
theorem dX12_field_7 : decode cX12_field 7 = .ok (.getfield 241, 3) := by decide +kernel
theorem dX12_field_10 : decode cX12_field 10 = .ok (.ifCond .ne 13, 3) := by decide +kernel
theorem dX12_field_13 : decode cX12_field 13 = .ok (.iload_n 3, 1) := by decide +kernel
theorem dX12_field_14 : decode cX12_field 14 = .ok (.iload_n 1, 1) := by decide +kernel
theorem dX12_field_15 : decode cX12_field 15 = .ok (.if_icmp .eq 8, 3) := by decide +kernel
theorem dX12_field_18 : decode cX12_field 18 = .ok (.aload_n 0, 1) := by decide +kernel
theorem dX12_field_19 : decode cX12_field 19 = .ok (.iconst 1, 1) := by decide +kernel
theorem dX12_field_20 : decode cX12_field 20 = .ok (.putfield 241, 3) := by decide +kernel
theorem dX12_field_23 : decode cX12_field 23 = .ok (.aload_n 0, 1) := by decide +kernel
theorem dX12_field_24 : decode cX12_field 24 = .ok (.iload_n 2, 1) := by decide +kernel
theorem dX12_field_25 : decode cX12_field 25 = .ok (.invokevirtual 248, 3) := by decide +kernel
theorem dX12_field_28 : decode cX12_field 28 = .ok (.ireturn, 1) := by decide +kernel
theorem dX12_size_0 : decode cX12_size 0 = .ok (.aload_n 0, 1) := by decide +kernel
theorem dX12_size_1 : decode cX12_size 1 = .ok (.iload_n 1, 1) := by decide +kernel
theorem dX12_size_2 : decode cX12_size 2 = .ok (.invokevirtual 244, 3) := by decide +kernel
theorem dX12_size_5 : decode cX12_size 5 = .ok (.i2l, 1) := by decide +kernel
theorem dX12_size_6 : decode cX12_size 6 = .ok (.lstore_n 2, 1) := by decide +kernel
theorem dX12_size_7 : decode cX12_size 7 = .ok (.lload_n 2, 1) := by decide +kernel
theorem dX12_size_8 : decode cX12_size 8 = .ok (.ldc2_w 251, 3) := by decide +kernel
theorem dX12_size_11 : decode cX12_size 11 = .ok (.lcmp, 1) := by decide +kernel
theorem dX12_size_12 : decode cX12_size 12 = .ok (.ifCond .lt 78, 3) := by decide +kernel
theorem dX12_size_15 : decode cX12_size 15 = .ok (.lload_n 2, 1) := by decide +kernel
theorem dX12_size_16 : decode cX12_size 16 = .ok (.l2i, 1) := by decide +kernel
theorem dX12_size_17 : decode cX12_size 17 = .ok (.sipush 128, 3) := by decide +kernel
theorem dX12_size_20 : decode cX12_size 20 = .ok (.isub, 1) := by decide +kernel
theorem dX12_size_21 : decode cX12_size 21 = .ok (.istore 4, 2) := by decide +kernel
theorem dX12_size_23 : decode cX12_size 23 = .ok (.iload 4, 2) := by decide +kernel
theorem dX12_size_25 : decode cX12_size 25 = .ok (.i2l, 1) := by decide +kernel
theorem dX12_size_26 : decode cX12_size 26 = .ok (.lconst 1, 1) := by decide +kernel
theorem dX12_size_27 : decode cX12_size 27 = .ok (.ldc2_w 253, 3) := by decide +kernel
theorem dX12_size_30 : decode cX12_size 30 = .ok (.invokestatic 142, 3) := by decide +kernel
theorem dX12_size_33 : decode cX12_size 33 = .ok (.ifCond .ne 27, 3) := by decide +kernel
theorem dX12_size_36 : decode cX12_size 36 = .ok (.aload_n 0, 1) := by decide +kernel
theorem dX12_size_37 : decode cX12_size 37 = .ok (.aload_n 0, 1) := by decide +kernel
theorem dX12_size_38 : decode cX12_size 38 = .ok (.getfield 241, 3) := by decide +kernel
theorem dX12_size_41 : decode cX12_size 41 = .ok (.ifCond .ne 7, 3) := by decide +kernel
theorem dX12_size_44 : decode cX12_size 44 = .ok (.iconst 1, 1) := by decide +kernel
theorem dX12_size_45 : decode cX12_size 45 = .ok (.goto 7, 3) := by decide +kernel
theorem dX12_size_48 : decode cX12_size 48 = .ok (.aload_n 0, 1) := by decide +kernel
theorem dX12_size_49 : decode cX12_size 49 = .ok (.getfield 241, 3) := by decide +kernel
theorem dX12_size_52 : decode cX12_size 52 = .ok (.putfield 241, 3) := by decide +kernel
theorem dX12_size_55 : decode cX12_size 55 = .ok (.aload_n 0, 1) := by decide +kernel
theorem dX12_size_56 : decode cX12_size 56 = .ok (.getfield 238, 3) := by decide +kernel
theorem dX12_size_59 : decode cX12_size 59 = .ok (.ireturn, 1) := by decide +kernel
theorem dX12_size_60 : decode cX12_size 60 = .ok (.lconst 0, 1) := by decide +kernel
theorem dX12_size_61 : decode cX12_size 61 = .ok (.lstore_n 2, 1) := by decide +kernel
theorem dX12_size_62 : decode cX12_size 62 = .ok (.iconst 0, 1) := by decide +kernel
theorem dX12_size_63 : decode cX12_size 63 = .ok (.istore 5, 2) := by decide +kernel
theorem dX12_size_65 : decode cX12_size 65 = .ok (.iload 5, 2) := by decide +kernel
theorem dX12_size_67 : decode cX12_size 67 = .ok (.iload 4, 2) := by decide +kernel
theorem dX12_size_69 : decode cX12_size 69 = .ok (.if_icmp .ge 21, 3) := by decide +kernel
theorem dX12_size_72 : decode cX12_size 72 = .ok (.lload_n 2, 1) := by decide +kernel
theorem dX12_size_73 : decode cX12_size 73 = .ok (.bipush 8, 2) := by decide +kernel
theorem dX12_size_75 : decode cX12_size 75 = .ok (.lshl, 1) := by decide +kernel
theorem dX12_size_76 : decode cX12_size 76 = .ok (.aload_n 0, 1) := by decide +kernel
theorem dX12_size_77 : decode cX12_size 77 = .ok (.iload_n 1, 1) := by decide +kernel
theorem dX12_size_78 : decode cX12_size 78 = .ok (.invokevirtual 244, 3) := by decide +kernel
theorem dX12_size_81 : decode cX12_size 81 = .ok (.i2l, 1) := by decide +kernel
theorem dX12_size_82 : decode cX12_size 82 = .ok (.lor, 1) := by decide +kernel
theorem dX12_size_83 : decode cX12_size 83 = .ok (.lstore_n 2, 1) := by decide +kernel
theorem dX12_size_84 : decode cX12_size 84 = .ok (.iinc 5 1, 3) := by decide +kernel
theorem dX12_size_87 : decode cX12_size 87 = .ok (.goto (-22), 3) := by decide +kernel
theorem dX12_size_90 : decode cX12_size 90 = .ok (.aload_n 0, 1) := by decide +kernel
theorem dX12_size_91 : decode cX12_size 91 = .ok (.getfield 241, 3) := by decide +kernel
theorem dX12_size_94 : decode cX12_size 94 = .ok (.ifCond .ne 20, 3) := by decide +kernel
theorem dX12_size_97 : decode cX12_size 97 = .ok (.lload_n 2, 1) := by decide +kernel
theorem dX12_size_98 : decode cX12_size 98 = .ok (.iload_n 1, 1) := by decide +kernel
theorem dX12_size_99 : decode cX12_size 99 = .ok (.aload_n 0, 1) := by decide +kernel
theorem dX12_size_100 : decode cX12_size 100 = .ok (.getfield 238, 3) := by decide +kernel
theorem dX12_size_103 : decode cX12_size 103 = .ok (.isub, 1) := by decide +kernel
theorem dX12_size_104 : decode cX12_size 104 = .ok (.i2l, 1) := by decide +kernel
theorem dX12_size_105 : decode cX12_size 105 = .ok (.lcmp, 1) := by decide +kernel
theorem dX12_size_106 : decode cX12_size 106 = .ok (.ifCond .le 8, 3) := by decide +kernel
theorem dX12_size_109 : decode cX12_size 109 = .ok (.aload_n 0, 1) := by decide +kernel
theorem dX12_size_110 : decode cX12_size 110 = .ok (.iconst 1, 1) := by decide +kernel
theorem dX12_size_111 : decode cX12_size 111 = .ok (.putfield 241, 3) := by decide +kernel
theorem dX12_size_114 : decode cX12_size 114 = .ok (.aload_n 0, 1) := by decide +kernel
theorem dX12_size_115 : decode cX12_size 115 = .ok (.getfield 241, 3) := by decide +kernel
theorem dX12_size_118 : decode cX12_size 118 = .ok (.ifCond .ne 13, 3) := by decide +kernel
theorem dX12_size_121 : decode cX12_size 121 = .ok (.aload_n 0, 1) := by decide +kernel
theorem dX12_size_122 : decode cX12_size 122 = .ok (.getfield 238, 3) := by decide +kernel
theorem dX12_size_125 : decode cX12_size 125 = .ok (.lload_n 2, 1) := by decide +kernel
theorem dX12_size_126 : decode cX12_size 126 = .ok (.l2i, 1) := by decide +kernel
theorem dX12_size_127 : decode cX12_size 127 = .ok (.iadd, 1) := by decide +kernel
theorem dX12_size_128 : decode cX12_size 128 = .ok (.goto 7, 3) := by decide +kernel
theorem dX12_size_131 : decode cX12_size 131 = .ok (.aload_n 0, 1) := by decide +kernel
theorem dX12_size_132 : decode cX12_size 132 = .ok (.getfield 238, 3) := by decide +kernel
theorem dX12_size_135 : decode cX12_size 135 = .ok (.ireturn, 1) := by decide +kernel
theorem dX12_read_0 : decode cX12_read 0 = .ok (.iload_n 1, 1) := by decide +kernel
theorem dX12_read_1 : decode cX12_read 1 = .ok (.aload_n 0, 1) := by decide +kernel
theorem dX12_read_2 : decode cX12_read 2 = .ok (.getfield 238, 3) := by decide +kernel
theorem dX12_read_5 : decode cX12_read 5 = .ok (.isub, 1) := by decide +kernel
theorem dX12_read_6 : decode cX12_read 6 = .ok (.istore_n 2, 1) := by decide +kernel
theorem dX12_read_7 : decode cX12_read 7 = .ok (.aload_n 0, 1) := by decide +kernel
theorem dX12_read_8 : decode cX12_read 8 = .ok (.getfield 241, 3) := by decide +kernel
theorem dX12_read_11 : decode cX12_read 11 = .ok (.ifCond .ne 20, 3) := by decide +kernel
theorem dX12_read_14 : decode cX12_read 14 = .ok (.iload_n 2, 1) := by decide +kernel
theorem dX12_read_15 : decode cX12_read 15 = .ok (.i2l, 1) := by decide +kernel
theorem dX12_read_16 : decode cX12_read 16 = .ok (.lconst 1, 1) := by decide +kernel
theorem dX12_read_17 : decode cX12_read 17 = .ok (.ldc2_w 255, 3) := by decide +kernel
theorem dX12_read_20 : decode cX12_read 20 = .ok (.invokestatic 142, 3) := by decide +kernel
theorem dX12_read_23 : decode cX12_read 23 = .ok (.ifCond .ne 8, 3) := by decide +kernel
theorem dX12_read_26 : decode cX12_read 26 = .ok (.aload_n 0, 1) := by decide +kernel
theorem dX12_read_27 : decode cX12_read 27 = .ok (.iconst 1, 1) := by decide +kernel
theorem dX12_read_28 : decode cX12_read 28 = .ok (.putfield 241, 3) := by decide +kernel
theorem dX12_read_31 : decode cX12_read 31 = .ok (.aload_n 0, 1) := by decide +kernel
theorem dX12_read_32 : decode cX12_read 32 = .ok (.getfield 241, 3) := by decide +kernel
theorem dX12_read_35 : decode cX12_read 35 = .ok (.ifCond .eq 5, 3) := by decide +kernel
theorem dX12_read_38 : decode cX12_read 38 = .ok (.lconst 0, 1) := by decide +kernel
theorem dX12_read_39 : decode cX12_read 39 = .ok (.lreturn, 1) := by decide +kernel
theorem dX12_read_40 : decode cX12_read 40 = .ok (.aload_n 0, 1) := by decide +kernel
theorem dX12_read_41 : decode cX12_read 41 = .ok (.getfield 7, 3) := by decide +kernel
theorem dX12_read_44 : decode cX12_read 44 = .ok (.aload_n 0, 1) := by decide +kernel
theorem dX12_read_45 : decode cX12_read 45 = .ok (.getfield 238, 3) := by decide +kernel
theorem dX12_read_48 : decode cX12_read 48 = .ok (.baload, 1) := by decide +kernel
theorem dX12_read_49 : decode cX12_read 49 = .ok (.istore_n 3, 1) := by decide +kernel
theorem dX12_read_50 : decode cX12_read 50 = .ok (.iload_n 3, 1) := by decide +kernel
theorem dX12_read_51 : decode cX12_read 51 = .ok (.i2l, 1) := by decide +kernel
theorem dX12_read_52 : decode cX12_read 52 = .ok (.lstore 4, 2) := by decide +kernel
theorem dX12_read_54 : decode cX12_read 54 = .ok (.iconst 1, 1) := by decide +kernel
theorem dX12_read_55 : decode cX12_read 55 = .ok (.istore 6, 2) := by decide +kernel
theorem dX12_read_57 : decode cX12_read 57 = .ok (.iload 6, 2) := by decide +kernel
theorem dX12_read_59 : decode cX12_read 59 = .ok (.iload_n 2, 1) := by decide +kernel
theorem dX12_read_60 : decode cX12_read 60 = .ok (.if_icmp .ge 34, 3) := by decide +kernel
theorem dX12_read_63 : decode cX12_read 63 = .ok (.lload 4, 2) := by decide +kernel
theorem dX12_read_65 : decode cX12_read 65 = .ok (.bipush 8, 2) := by decide +kernel
theorem dX12_read_67 : decode cX12_read 67 = .ok (.lshl, 1) := by decide +kernel
theorem dX12_read_68 : decode cX12_read 68 = .ok (.aload_n 0, 1) := by decide +kernel
theorem dX12_read_69 : decode cX12_read 69 = .ok (.getfield 7, 3) := by decide +kernel
theorem dX12_read_72 : decode cX12_read 72 = .ok (.aload_n 0, 1) := by decide +kernel
theorem dX12_read_73 : decode cX12_read 73 = .ok (.getfield 238, 3) := by decide +kernel
theorem dX12_read_76 : decode cX12_read 76 = .ok (.iload 6, 2) := by decide +kernel
theorem dX12_read_78 : decode cX12_read 78 = .ok (.iadd, 1) := by decide +kernel
theorem dX12_read_79 : decode cX12_read 79 = .ok (.baload, 1) := by decide +kernel
theorem dX12_read_80 : decode cX12_read 80 = .ok (.sipush 255, 3) := by decide +kernel
theorem dX12_read_83 : decode cX12_read 83 = .ok (.iand, 1) := by decide +kernel
theorem dX12_read_84 : decode cX12_read 84 = .ok (.i2l, 1) := by decide +kernel
theorem dX12_read_85 : decode cX12_read 85 = .ok (.lor, 1) := by decide +kernel
theorem dX12_read_86 : decode cX12_read 86 = .ok (.lstore 4, 2) := by decide +kernel
theorem dX12_read_88 : decode cX12_read 88 = .ok (.iinc 6 1, 3) := by decide +kernel
theorem dX12_read_91 : decode cX12_read 91 = .ok (.goto (-34), 3) := by decide +kernel
theorem dX12_read_94 : decode cX12_read 94 = .ok (.aload_n 0, 1) := by decide +kernel
theorem dX12_read_95 : decode cX12_read 95 = .ok (.iload_n 1, 1) := by decide +kernel
theorem dX12_read_96 : decode cX12_read 96 = .ok (.putfield 238, 3) := by decide +kernel
theorem dX12_read_99 : decode cX12_read 99 = .ok (.aload_n 0, 1) := by decide +kernel
theorem dX12_read_100 : decode cX12_read 100 = .ok (.iconst 0, 1) := by decide +kernel
theorem dX12_read_101 : decode cX12_read 101 = .ok (.putfield 257, 3) := by decide +kernel
theorem dX12_read_104 : decode cX12_read 104 = .ok (.iload_n 2, 1) := by decide +kernel
theorem dX12_read_105 : decode cX12_read 105 = .ok (.bipush 9, 2) := by decide +kernel
theorem dX12_read_107 : decode cX12_read 107 = .ok (.if_icmp .ne 60, 3) := by decide +kernel
theorem dX12_read_110 : decode cX12_read 110 = .ok (.aload_n 0, 1) := by decide +kernel
theorem dX12_read_111 : decode cX12_read 111 = .ok (.iload_n 3, 1) := by decide +kernel
theorem dX12_read_112 : decode cX12_read 112 = .ok (.ifCond .ne 14, 3) := by decide +kernel
theorem dX12_read_115 : decode cX12_read 115 = .ok (.lload 4, 2) := by decide +kernel
theorem dX12_read_117 : decode cX12_read 117 = .ok (.lconst 0, 1) := by decide +kernel
theorem dX12_read_118 : decode cX12_read 118 = .ok (.lcmp, 1) := by decide +kernel
theorem dX12_read_119 : decode cX12_read 119 = .ok (.ifCond .ge 7, 3) := by decide +kernel
theorem dX12_read_122 : decode cX12_read 122 = .ok (.iconst 1, 1) := by decide +kernel
theorem dX12_read_123 : decode cX12_read 123 = .ok (.goto 4, 3) := by decide +kernel
theorem dX12_read_126 : decode cX12_read 126 = .ok (.iconst 0, 1) := by decide +kernel
theorem dX12_read_127 : decode cX12_read 127 = .ok (.putfield 257, 3) := by decide +kernel
theorem dX12_read_130 : decode cX12_read 130 = .ok (.iload_n 3, 1) := by decide +kernel
theorem dX12_read_131 : decode cX12_read 131 = .ok (.ifCond .eq 15, 3) := by decide +kernel
theorem dX12_read_134 : decode cX12_read 134 = .ok (.iload_n 3, 1) := by decide +kernel
theorem dX12_read_135 : decode cX12_read 135 = .ok (.iconst (-1), 1) := by decide +kernel
theorem dX12_read_136 : decode cX12_read 136 = .ok (.if_icmp .ne 14, 3) := by decide +kernel
theorem dX12_read_139 : decode cX12_read 139 = .ok (.lload 4, 2) := by decide +kernel
theorem dX12_read_141 : decode cX12_read 141 = .ok (.lconst 0, 1) := by decide +kernel
theorem dX12_read_142 : decode cX12_read 142 = .ok (.lcmp, 1) := by decide +kernel
theorem dX12_read_143 : decode cX12_read 143 = .ok (.ifCond .ge 7, 3) := by decide +kernel
theorem dX12_read_146 : decode cX12_read 146 = .ok (.iconst 1, 1) := by decide +kernel
theorem dX12_read_147 : decode cX12_read 147 = .ok (.goto 4, 3) := by decide +kernel
theorem dX12_read_150 : decode cX12_read 150 = .ok (.iconst 0, 1) := by decide +kernel
theorem dX12_read_151 : decode cX12_read 151 = .ok (.istore 6, 2) := by decide +kernel
theorem dX12_read_153 : decode cX12_read 153 = .ok (.aload_n 0, 1) := by decide +kernel
theorem dX12_read_154 : decode cX12_read 154 = .ok (.iload 6, 2) := by decide +kernel
theorem dX12_read_156 : decode cX12_read 156 = .ok (.ifCond .eq 7, 3) := by decide +kernel
theorem dX12_read_159 : decode cX12_read 159 = .ok (.iconst 0, 1) := by decide +kernel
theorem dX12_read_160 : decode cX12_read 160 = .ok (.goto 4, 3) := by decide +kernel
theorem dX12_read_163 : decode cX12_read 163 = .ok (.iconst 1, 1) := by decide +kernel
theorem dX12_read_164 : decode cX12_read 164 = .ok (.putfield 241, 3) := by decide +kernel
theorem dX12_read_167 : decode cX12_read 167 = .ok (.lload 4, 2) := by decide +kernel
theorem dX12_read_169 : decode cX12_read 169 = .ok (.lreturn, 1) := by decide +kernel
theorem dX12_integer_0 : decode cX12_integer 0 = .ok (.aload_n 0, 1) := by decide +kernel
theorem dX12_integer_1 : decode cX12_integer 1 = .ok (.iconst 2, 1) := by decide +kernel
theorem dX12_integer_2 : decode cX12_integer 2 = .ok (.iload_n 1, 1) := by decide +kernel
theorem dX12_integer_3 : decode cX12_integer 3 = .ok (.invokevirtual 261, 3) := by decide +kernel
theorem dX12_integer_6 : decode cX12_integer 6 = .ok (.istore_n 2, 1) := by decide +kernel
theorem dX12_integer_7 : decode cX12_integer 7 = .ok (.aload_n 0, 1) := by decide +kernel
theorem dX12_integer_8 : decode cX12_integer 8 = .ok (.iload_n 2, 1) := by decide +kernel
theorem dX12_integer_9 : decode cX12_integer 9 = .ok (.invokevirtual 264, 3) := by decide +kernel
theorem dX12_integer_12 : decode cX12_integer 12 = .ok (.lstore_n 3, 1) := by decide +kernel
theorem dX12_integer_13 : decode cX12_integer 13 = .ok (.aload_n 0, 1) := by decide +kernel
theorem dX12_integer_14 : decode cX12_integer 14 = .ok (.getfield 241, 3) := by decide +kernel
theorem dX12_integer_17 : decode cX12_integer 17 = .ok (.ifCond .ne 28, 3) := by decide +kernel
theorem dX12_integer_20 : decode cX12_integer 20 = .ok (.aload_n 0, 1) := by decide +kernel
theorem dX12_integer_21 : decode cX12_integer 21 = .ok (.getfield 257, 3) := by decide +kernel
theorem dX12_integer_24 : decode cX12_integer 24 = .ok (.ifCond .ne 16, 3) := by decide +kernel
theorem dX12_integer_27 : decode cX12_integer 27 = .ok (.lload_n 3, 1) := by decide +kernel
theorem dX12_integer_28 : decode cX12_integer 28 = .ok (.ldc2_w 211, 3) := by decide +kernel
theorem dX12_integer_31 : decode cX12_integer 31 = .ok (.ldc2_w 213, 3) := by decide +kernel
theorem dX12_integer_34 : decode cX12_integer 34 = .ok (.invokestatic 142, 3) := by decide +kernel
theorem dX12_integer_37 : decode cX12_integer 37 = .ok (.ifCond .ne 8, 3) := by decide +kernel
theorem dX12_integer_40 : decode cX12_integer 40 = .ok (.aload_n 0, 1) := by decide +kernel
theorem dX12_integer_41 : decode cX12_integer 41 = .ok (.iconst 1, 1) := by decide +kernel
theorem dX12_integer_42 : decode cX12_integer 42 = .ok (.putfield 241, 3) := by decide +kernel
theorem dX12_integer_45 : decode cX12_integer 45 = .ok (.lload_n 3, 1) := by decide +kernel
theorem dX12_integer_46 : decode cX12_integer 46 = .ok (.l2i, 1) := by decide +kernel
theorem dX12_integer_47 : decode cX12_integer 47 = .ok (.ireturn, 1) := by decide +kernel
theorem dX12_readName_0 : decode cX12_readName 0 = .ok (.iconst 0, 1) := by decide +kernel
theorem dX12_readName_1 : decode cX12_readName 1 = .ok (.istore 4, 2) := by decide +kernel
theorem dX12_readName_3 : decode cX12_readName 3 = .ok (.aload_n 0, 1) := by decide +kernel
theorem dX12_readName_4 : decode cX12_readName 4 = .ok (.getfield 241, 3) := by decide +kernel
theorem dX12_readName_7 : decode cX12_readName 7 = .ok (.ifCond .ne 16, 3) := by decide +kernel
theorem dX12_readName_10 : decode cX12_readName 10 = .ok (.aload_n 0, 1) := by decide +kernel
theorem dX12_readName_11 : decode cX12_readName 11 = .ok (.getfield 238, 3) := by decide +kernel
theorem dX12_readName_14 : decode cX12_readName 14 = .ok (.iload_n 1, 1) := by decide +kernel
theorem dX12_readName_15 : decode cX12_readName 15 = .ok (.if_icmp .ne 8, 3) := by decide +kernel
theorem dX12_readName_18 : decode cX12_readName 18 = .ok (.aload_n 0, 1) := by decide +kernel
theorem dX12_readName_19 : decode cX12_readName 19 = .ok (.iconst 1, 1) := by decide +kernel
theorem dX12_readName_20 : decode cX12_readName 20 = .ok (.putfield 241, 3) := by decide +kernel
theorem dX12_readName_23 : decode cX12_readName 23 = .ok (.aload_n 0, 1) := by decide +kernel
theorem dX12_readName_24 : decode cX12_readName 24 = .ok (.getfield 241, 3) := by decide +kernel
theorem dX12_readName_27 : decode cX12_readName 27 = .ok (.ifCond .ne 220, 3) := by decide +kernel
theorem dX12_readName_30 : decode cX12_readName 30 = .ok (.aload_n 0, 1) := by decide +kernel
theorem dX12_readName_31 : decode cX12_readName 31 = .ok (.getfield 238, 3) := by decide +kernel
theorem dX12_readName_34 : decode cX12_readName 34 = .ok (.iload_n 1, 1) := by decide +kernel
theorem dX12_readName_35 : decode cX12_readName 35 = .ok (.if_icmp .ge 212, 3) := by decide +kernel
theorem dX12_readName_38 : decode cX12_readName 38 = .ok (.lconst 0, 1) := by decide +kernel
theorem dX12_readName_39 : decode cX12_readName 39 = .ok (.lstore 5, 2) := by decide +kernel
theorem dX12_readName_41 : decode cX12_readName 41 = .ok (.aload_n 0, 1) := by decide +kernel
theorem dX12_readName_42 : decode cX12_readName 42 = .ok (.iload_n 1, 1) := by decide +kernel
theorem dX12_readName_43 : decode cX12_readName 43 = .ok (.invokevirtual 244, 3) := by decide +kernel
theorem dX12_readName_46 : decode cX12_readName 46 = .ok (.istore 7, 2) := by decide +kernel
theorem dX12_readName_48 : decode cX12_readName 48 = .ok (.aload_n 0, 1) := by decide +kernel
theorem dX12_readName_49 : decode cX12_readName 49 = .ok (.aload_n 0, 1) := by decide +kernel
theorem dX12_readName_50 : decode cX12_readName 50 = .ok (.getfield 241, 3) := by decide +kernel
theorem dX12_readName_53 : decode cX12_readName 53 = .ok (.ifCond .ne 15, 3) := by decide +kernel
theorem dX12_readName_56 : decode cX12_readName 56 = .ok (.iload 7, 2) := by decide +kernel
theorem dX12_readName_58 : decode cX12_readName 58 = .ok (.sipush 128, 3) := by decide +kernel
theorem dX12_readName_61 : decode cX12_readName 61 = .ok (.if_icmp .ne 7, 3) := by decide +kernel
theorem dX12_readName_64 : decode cX12_readName 64 = .ok (.iconst 1, 1) := by decide +kernel
theorem dX12_readName_65 : decode cX12_readName 65 = .ok (.goto 7, 3) := by decide +kernel
theorem dX12_readName_68 : decode cX12_readName 68 = .ok (.aload_n 0, 1) := by decide +kernel
theorem dX12_readName_69 : decode cX12_readName 69 = .ok (.getfield 241, 3) := by decide +kernel
theorem dX12_readName_72 : decode cX12_readName 72 = .ok (.putfield 241, 3) := by decide +kernel
theorem dX12_readName_75 : decode cX12_readName 75 = .ok (.aload_n 0, 1) := by decide +kernel
theorem dX12_readName_76 : decode cX12_readName 76 = .ok (.getfield 241, 3) := by decide +kernel
theorem dX12_readName_79 : decode cX12_readName 79 = .ok (.ifCond .ne 56, 3) := by decide +kernel
theorem dX12_readName_82 : decode cX12_readName 82 = .ok (.iload 7, 2) := by decide +kernel
theorem dX12_readName_84 : decode cX12_readName 84 = .ok (.sipush 128, 3) := by decide +kernel
theorem dX12_readName_87 : decode cX12_readName 87 = .ok (.if_icmp .lt 48, 3) := by decide +kernel
theorem dX12_readName_90 : decode cX12_readName 90 = .ok (.lload 5, 2) := by decide +kernel
theorem dX12_readName_92 : decode cX12_readName 92 = .ok (.bipush 7, 2) := by decide +kernel
theorem dX12_readName_94 : decode cX12_readName 94 = .ok (.lshl, 1) := by decide +kernel
theorem dX12_readName_95 : decode cX12_readName 95 = .ok (.iload 7, 2) := by decide +kernel
theorem dX12_readName_97 : decode cX12_readName 97 = .ok (.bipush 127, 2) := by decide +kernel
theorem dX12_readName_99 : decode cX12_readName 99 = .ok (.iand, 1) := by decide +kernel
theorem dX12_readName_100 : decode cX12_readName 100 = .ok (.i2l, 1) := by decide +kernel
theorem dX12_readName_101 : decode cX12_readName 101 = .ok (.lor, 1) := by decide +kernel
theorem dX12_readName_102 : decode cX12_readName 102 = .ok (.lstore 5, 2) := by decide +kernel
theorem dX12_readName_104 : decode cX12_readName 104 = .ok (.aload_n 0, 1) := by decide +kernel
theorem dX12_readName_105 : decode cX12_readName 105 = .ok (.lload 5, 2) := by decide +kernel
theorem dX12_readName_107 : decode cX12_readName 107 = .ok (.ldc2_w 158, 3) := by decide +kernel
theorem dX12_readName_110 : decode cX12_readName 110 = .ok (.lcmp, 1) := by decide +kernel
theorem dX12_readName_111 : decode cX12_readName 111 = .ok (.ifCond .le 7, 3) := by decide +kernel
theorem dX12_readName_114 : decode cX12_readName 114 = .ok (.iconst 1, 1) := by decide +kernel
theorem dX12_readName_115 : decode cX12_readName 115 = .ok (.goto 7, 3) := by decide +kernel
theorem dX12_readName_118 : decode cX12_readName 118 = .ok (.aload_n 0, 1) := by decide +kernel
theorem dX12_readName_119 : decode cX12_readName 119 = .ok (.getfield 241, 3) := by decide +kernel
theorem dX12_readName_122 : decode cX12_readName 122 = .ok (.putfield 241, 3) := by decide +kernel
theorem dX12_readName_125 : decode cX12_readName 125 = .ok (.aload_n 0, 1) := by decide +kernel
theorem dX12_readName_126 : decode cX12_readName 126 = .ok (.iload_n 1, 1) := by decide +kernel
theorem dX12_readName_127 : decode cX12_readName 127 = .ok (.invokevirtual 244, 3) := by decide +kernel
theorem dX12_readName_130 : decode cX12_readName 130 = .ok (.istore 7, 2) := by decide +kernel
theorem dX12_readName_132 : decode cX12_readName 132 = .ok (.goto (-57), 3) := by decide +kernel
theorem dX12_readName_135 : decode cX12_readName 135 = .ok (.lload 5, 2) := by decide +kernel
theorem dX12_readName_137 : decode cX12_readName 137 = .ok (.bipush 7, 2) := by decide +kernel
theorem dX12_readName_139 : decode cX12_readName 139 = .ok (.lshl, 1) := by decide +kernel
theorem dX12_readName_140 : decode cX12_readName 140 = .ok (.iload 7, 2) := by decide +kernel
theorem dX12_readName_142 : decode cX12_readName 142 = .ok (.i2l, 1) := by decide +kernel
theorem dX12_readName_143 : decode cX12_readName 143 = .ok (.lor, 1) := by decide +kernel
theorem dX12_readName_144 : decode cX12_readName 144 = .ok (.lstore 5, 2) := by decide +kernel
theorem dX12_readName_146 : decode cX12_readName 146 = .ok (.aload_n 0, 1) := by decide +kernel
theorem dX12_readName_147 : decode cX12_readName 147 = .ok (.getfield 241, 3) := by decide +kernel
theorem dX12_readName_150 : decode cX12_readName 150 = .ok (.ifCond .ne 38, 3) := by decide +kernel
theorem dX12_readName_153 : decode cX12_readName 153 = .ok (.lload 5, 2) := by decide +kernel
theorem dX12_readName_155 : decode cX12_readName 155 = .ok (.ldc2_w 158, 3) := by decide +kernel
theorem dX12_readName_158 : decode cX12_readName 158 = .ok (.lcmp, 1) := by decide +kernel
theorem dX12_readName_159 : decode cX12_readName 159 = .ok (.ifCond .gt 24, 3) := by decide +kernel
theorem dX12_readName_162 : decode cX12_readName 162 = .ok (.iload 4, 2) := by decide +kernel
theorem dX12_readName_164 : decode cX12_readName 164 = .ok (.ifCond .ne 12, 3) := by decide +kernel
theorem dX12_readName_167 : decode cX12_readName 167 = .ok (.lload 5, 2) := by decide +kernel
theorem dX12_readName_169 : decode cX12_readName 169 = .ok (.ldc2_w 268, 3) := by decide +kernel
theorem dX12_readName_172 : decode cX12_readName 172 = .ok (.lcmp, 1) := by decide +kernel
theorem dX12_readName_173 : decode cX12_readName 173 = .ok (.ifCond .gt 10, 3) := by decide +kernel
theorem dX12_readName_176 : decode cX12_readName 176 = .ok (.iload 4, 2) := by decide +kernel
theorem dX12_readName_178 : decode cX12_readName 178 = .ok (.bipush 16, 2) := by decide +kernel
theorem dX12_readName_180 : decode cX12_readName 180 = .ok (.if_icmp .ne 8, 3) := by decide +kernel
theorem dX12_readName_183 : decode cX12_readName 183 = .ok (.aload_n 0, 1) := by decide +kernel
theorem dX12_readName_184 : decode cX12_readName 184 = .ok (.iconst 1, 1) := by decide +kernel
theorem dX12_readName_185 : decode cX12_readName 185 = .ok (.putfield 241, 3) := by decide +kernel
theorem dX12_readName_188 : decode cX12_readName 188 = .ok (.aload_n 0, 1) := by decide +kernel
theorem dX12_readName_189 : decode cX12_readName 189 = .ok (.getfield 241, 3) := by decide +kernel
theorem dX12_readName_192 : decode cX12_readName 192 = .ok (.ifCond .ne 34, 3) := by decide +kernel
theorem dX12_readName_195 : decode cX12_readName 195 = .ok (.iload 4, 2) := by decide +kernel
theorem dX12_readName_197 : decode cX12_readName 197 = .ok (.ifCond .ne 29, 3) := by decide +kernel
theorem dX12_readName_200 : decode cX12_readName 200 = .ok (.aload_n 2, 1) := by decide +kernel
theorem dX12_readName_201 : decode cX12_readName 201 = .ok (.iload_n 3, 1) := by decide +kernel
theorem dX12_readName_202 : decode cX12_readName 202 = .ok (.lload 5, 2) := by decide +kernel
theorem dX12_readName_204 : decode cX12_readName 204 = .ok (.ldc2_w 270, 3) := by decide +kernel
theorem dX12_readName_207 : decode cX12_readName 207 = .ok (.ldiv, 1) := by decide +kernel
theorem dX12_readName_208 : decode cX12_readName 208 = .ok (.lastore, 1) := by decide +kernel
theorem dX12_readName_209 : decode cX12_readName 209 = .ok (.aload_n 2, 1) := by decide +kernel
theorem dX12_readName_210 : decode cX12_readName 210 = .ok (.iload_n 3, 1) := by decide +kernel
theorem dX12_readName_211 : decode cX12_readName 211 = .ok (.iconst 1, 1) := by decide +kernel
theorem dX12_readName_212 : decode cX12_readName 212 = .ok (.iadd, 1) := by decide +kernel
theorem dX12_readName_213 : decode cX12_readName 213 = .ok (.lload 5, 2) := by decide +kernel
theorem dX12_readName_215 : decode cX12_readName 215 = .ok (.ldc2_w 270, 3) := by decide +kernel
theorem dX12_readName_218 : decode cX12_readName 218 = .ok (.lrem, 1) := by decide +kernel
theorem dX12_readName_219 : decode cX12_readName 219 = .ok (.lastore, 1) := by decide +kernel
theorem dX12_readName_220 : decode cX12_readName 220 = .ok (.iconst 2, 1) := by decide +kernel
theorem dX12_readName_221 : decode cX12_readName 221 = .ok (.istore 4, 2) := by decide +kernel
theorem dX12_readName_223 : decode cX12_readName 223 = .ok (.goto 21, 3) := by decide +kernel
theorem dX12_readName_226 : decode cX12_readName 226 = .ok (.aload_n 0, 1) := by decide +kernel
theorem dX12_readName_227 : decode cX12_readName 227 = .ok (.getfield 241, 3) := by decide +kernel
theorem dX12_readName_230 : decode cX12_readName 230 = .ok (.ifCond .ne 14, 3) := by decide +kernel
theorem dX12_readName_233 : decode cX12_readName 233 = .ok (.aload_n 2, 1) := by decide +kernel
theorem dX12_readName_234 : decode cX12_readName 234 = .ok (.iload_n 3, 1) := by decide +kernel
theorem dX12_readName_235 : decode cX12_readName 235 = .ok (.iload 4, 2) := by decide +kernel
theorem dX12_readName_237 : decode cX12_readName 237 = .ok (.iadd, 1) := by decide +kernel
theorem dX12_readName_238 : decode cX12_readName 238 = .ok (.lload 5, 2) := by decide +kernel
theorem dX12_readName_240 : decode cX12_readName 240 = .ok (.lastore, 1) := by decide +kernel
theorem dX12_readName_241 : decode cX12_readName 241 = .ok (.iinc 4 1, 3) := by decide +kernel
theorem dX12_readName_244 : decode cX12_readName 244 = .ok (.goto (-221), 3) := by decide +kernel
theorem dX12_readName_247 : decode cX12_readName 247 = .ok (.iload 4, 2) := by decide +kernel
theorem dX12_readName_249 : decode cX12_readName 249 = .ok (.ireturn, 1) := by decide +kernel
theorem dX12_readValue_0 : decode cX12_readValue 0 = .ok (.aload_n 0, 1) := by decide +kernel
theorem dX12_readValue_1 : decode cX12_readValue 1 = .ok (.iload_n 2, 1) := by decide +kernel
theorem dX12_readValue_2 : decode cX12_readValue 2 = .ok (.invokevirtual 244, 3) := by decide +kernel
theorem dX12_readValue_5 : decode cX12_readValue 5 = .ok (.istore_n 3, 1) := by decide +kernel
theorem dX12_readValue_6 : decode cX12_readValue 6 = .ok (.aload_n 0, 1) := by decide +kernel
theorem dX12_readValue_7 : decode cX12_readValue 7 = .ok (.getfield 241, 3) := by decide +kernel
theorem dX12_readValue_10 : decode cX12_readValue 10 = .ok (.ifCond .eq 4, 3) := by decide +kernel
theorem dX12_readValue_13 : decode cX12_readValue 13 = .ok (.return_, 1) := by decide +kernel
theorem dX12_readValue_14 : decode cX12_readValue 14 = .ok (.iload_n 3, 1) := by decide +kernel
theorem dX12_readValue_15 : decode cX12_readValue 15 = .ok (.iconst 5, 1) := by decide +kernel
theorem dX12_readValue_16 : decode cX12_readValue 16 = .ok (.if_icmp .eq 16, 3) := by decide +kernel
theorem dX12_readValue_19 : decode cX12_readValue 19 = .ok (.iload_n 3, 1) := by decide +kernel
theorem dX12_readValue_20 : decode cX12_readValue 20 = .ok (.invokestatic 175, 3) := by decide +kernel
theorem dX12_readValue_23 : decode cX12_readValue 23 = .ok (.ifCond .ne 9, 3) := by decide +kernel
theorem dX12_readValue_26 : decode cX12_readValue 26 = .ok (.aload_n 0, 1) := by decide +kernel
theorem dX12_readValue_27 : decode cX12_readValue 27 = .ok (.iconst 1, 1) := by decide +kernel
theorem dX12_readValue_28 : decode cX12_readValue 28 = .ok (.putfield 241, 3) := by decide +kernel
theorem dX12_readValue_31 : decode cX12_readValue 31 = .ok (.return_, 1) := by decide +kernel
theorem dX12_readValue_32 : decode cX12_readValue 32 = .ok (.aload_n 0, 1) := by decide +kernel
theorem dX12_readValue_33 : decode cX12_readValue 33 = .ok (.iload_n 2, 1) := by decide +kernel
theorem dX12_readValue_34 : decode cX12_readValue 34 = .ok (.invokevirtual 248, 3) := by decide +kernel
theorem dX12_readValue_37 : decode cX12_readValue 37 = .ok (.istore 4, 2) := by decide +kernel
theorem dX12_readValue_39 : decode cX12_readValue 39 = .ok (.aload_n 0, 1) := by decide +kernel
theorem dX12_readValue_40 : decode cX12_readValue 40 = .ok (.getfield 241, 3) := by decide +kernel
theorem dX12_readValue_43 : decode cX12_readValue 43 = .ok (.ifCond .eq 4, 3) := by decide +kernel
theorem dX12_readValue_46 : decode cX12_readValue 46 = .ok (.return_, 1) := by decide +kernel
theorem dX12_readValue_47 : decode cX12_readValue 47 = .ok (.aload_n 0, 1) := by decide +kernel
theorem dX12_readValue_48 : decode cX12_readValue 48 = .ok (.getfield 107, 3) := by decide +kernel
theorem dX12_readValue_51 : decode cX12_readValue 51 = .ok (.iload_n 1, 1) := by decide +kernel
theorem dX12_readValue_52 : decode cX12_readValue 52 = .ok (.iload_n 3, 1) := by decide +kernel
theorem dX12_readValue_53 : decode cX12_readValue 53 = .ok (.iastore, 1) := by decide +kernel
theorem dX12_readValue_54 : decode cX12_readValue 54 = .ok (.iload 4, 2) := by decide +kernel
theorem dX12_readValue_56 : decode cX12_readValue 56 = .ok (.aload_n 0, 1) := by decide +kernel
theorem dX12_readValue_57 : decode cX12_readValue 57 = .ok (.getfield 238, 3) := by decide +kernel
theorem dX12_readValue_60 : decode cX12_readValue 60 = .ok (.isub, 1) := by decide +kernel
theorem dX12_readValue_61 : decode cX12_readValue 61 = .ok (.istore 5, 2) := by decide +kernel
theorem dX12_readValue_63 : decode cX12_readValue 63 = .ok (.iload_n 3, 1) := by decide +kernel
theorem dX12_readValue_64 : decode cX12_readValue 64 = .ok (.iconst 4, 1) := by decide +kernel
theorem dX12_readValue_65 : decode cX12_readValue 65 = .ok (.if_icmp .ne 73, 3) := by decide +kernel
theorem dX12_readValue_68 : decode cX12_readValue 68 = .ok (.iload 5, 2) := by decide +kernel
theorem dX12_readValue_70 : decode cX12_readValue 70 = .ok (.bipush 40, 2) := by decide +kernel
theorem dX12_readValue_72 : decode cX12_readValue 72 = .ok (.if_icmp .le 9, 3) := by decide +kernel
theorem dX12_readValue_75 : decode cX12_readValue 75 = .ok (.aload_n 0, 1) := by decide +kernel
theorem dX12_readValue_76 : decode cX12_readValue 76 = .ok (.iconst 1, 1) := by decide +kernel
theorem dX12_readValue_77 : decode cX12_readValue 77 = .ok (.putfield 241, 3) := by decide +kernel
theorem dX12_readValue_80 : decode cX12_readValue 80 = .ok (.return_, 1) := by decide +kernel
theorem dX12_readValue_81 : decode cX12_readValue 81 = .ok (.iconst 0, 1) := by decide +kernel
theorem dX12_readValue_82 : decode cX12_readValue 82 = .ok (.istore 6, 2) := by decide +kernel
theorem dX12_readValue_84 : decode cX12_readValue 84 = .ok (.iload 6, 2) := by decide +kernel
theorem dX12_readValue_86 : decode cX12_readValue 86 = .ok (.iload 5, 2) := by decide +kernel
theorem dX12_readValue_88 : decode cX12_readValue 88 = .ok (.if_icmp .ge 33, 3) := by decide +kernel
theorem dX12_readValue_91 : decode cX12_readValue 91 = .ok (.aload_n 0, 1) := by decide +kernel
theorem dX12_readValue_92 : decode cX12_readValue 92 = .ok (.getfield 113, 3) := by decide +kernel
theorem dX12_readValue_95 : decode cX12_readValue 95 = .ok (.bipush 40, 2) := by decide +kernel
theorem dX12_readValue_97 : decode cX12_readValue 97 = .ok (.iload_n 1, 1) := by decide +kernel
theorem dX12_readValue_98 : decode cX12_readValue 98 = .ok (.imul, 1) := by decide +kernel
theorem dX12_readValue_99 : decode cX12_readValue 99 = .ok (.iload 6, 2) := by decide +kernel
theorem dX12_readValue_101 : decode cX12_readValue 101 = .ok (.iadd, 1) := by decide +kernel
theorem dX12_readValue_102 : decode cX12_readValue 102 = .ok (.aload_n 0, 1) := by decide +kernel
theorem dX12_readValue_103 : decode cX12_readValue 103 = .ok (.getfield 7, 3) := by decide +kernel
theorem dX12_readValue_106 : decode cX12_readValue 106 = .ok (.aload_n 0, 1) := by decide +kernel
theorem dX12_readValue_107 : decode cX12_readValue 107 = .ok (.getfield 238, 3) := by decide +kernel
theorem dX12_readValue_110 : decode cX12_readValue 110 = .ok (.iload 6, 2) := by decide +kernel
theorem dX12_readValue_112 : decode cX12_readValue 112 = .ok (.iadd, 1) := by decide +kernel
theorem dX12_readValue_113 : decode cX12_readValue 113 = .ok (.baload, 1) := by decide +kernel
theorem dX12_readValue_114 : decode cX12_readValue 114 = .ok (.bastore, 1) := by decide +kernel
theorem dX12_readValue_115 : decode cX12_readValue 115 = .ok (.iinc 6 1, 3) := by decide +kernel
theorem dX12_readValue_118 : decode cX12_readValue 118 = .ok (.goto (-34), 3) := by decide +kernel
theorem dX12_readValue_121 : decode cX12_readValue 121 = .ok (.aload_n 0, 1) := by decide +kernel
theorem dX12_readValue_122 : decode cX12_readValue 122 = .ok (.getfield 116, 3) := by decide +kernel
theorem dX12_readValue_125 : decode cX12_readValue 125 = .ok (.iload_n 1, 1) := by decide +kernel
theorem dX12_readValue_126 : decode cX12_readValue 126 = .ok (.iload 5, 2) := by decide +kernel
theorem dX12_readValue_128 : decode cX12_readValue 128 = .ok (.iastore, 1) := by decide +kernel
theorem dX12_readValue_129 : decode cX12_readValue 129 = .ok (.aload_n 0, 1) := by decide +kernel
theorem dX12_readValue_130 : decode cX12_readValue 130 = .ok (.iload 4, 2) := by decide +kernel
theorem dX12_readValue_132 : decode cX12_readValue 132 = .ok (.putfield 238, 3) := by decide +kernel
theorem dX12_readValue_135 : decode cX12_readValue 135 = .ok (.goto 244, 3) := by decide +kernel
theorem dX12_readValue_138 : decode cX12_readValue 138 = .ok (.iload_n 3, 1) := by decide +kernel
theorem dX12_readValue_139 : decode cX12_readValue 139 = .ok (.iconst 5, 1) := by decide +kernel
theorem dX12_readValue_140 : decode cX12_readValue 140 = .ok (.if_icmp .ne 20, 3) := by decide +kernel
theorem dX12_readValue_143 : decode cX12_readValue 143 = .ok (.aload_n 0, 1) := by decide +kernel
theorem dX12_readValue_144 : decode cX12_readValue 144 = .ok (.iload 5, 2) := by decide +kernel
theorem dX12_readValue_146 : decode cX12_readValue 146 = .ok (.ifCond .ne 7, 3) := by decide +kernel
theorem dX12_readValue_149 : decode cX12_readValue 149 = .ok (.iconst 0, 1) := by decide +kernel
theorem dX12_readValue_150 : decode cX12_readValue 150 = .ok (.goto 4, 3) := by decide +kernel
theorem dX12_readValue_153 : decode cX12_readValue 153 = .ok (.iconst 1, 1) := by decide +kernel
theorem dX12_readValue_154 : decode cX12_readValue 154 = .ok (.putfield 241, 3) := by decide +kernel
theorem dX12_readValue_157 : decode cX12_readValue 157 = .ok (.goto 222, 3) := by decide +kernel
theorem dX12_readValue_160 : decode cX12_readValue 160 = .ok (.iload_n 3, 1) := by decide +kernel
theorem dX12_readValue_161 : decode cX12_readValue 161 = .ok (.bipush 6, 2) := by decide +kernel
theorem dX12_readValue_163 : decode cX12_readValue 163 = .ok (.if_icmp .ne 26, 3) := by decide +kernel
theorem dX12_readValue_166 : decode cX12_readValue 166 = .ok (.aload_n 0, 1) := by decide +kernel
theorem dX12_readValue_167 : decode cX12_readValue 167 = .ok (.getfield 122, 3) := by decide +kernel
theorem dX12_readValue_170 : decode cX12_readValue 170 = .ok (.iload_n 1, 1) := by decide +kernel
theorem dX12_readValue_171 : decode cX12_readValue 171 = .ok (.aload_n 0, 1) := by decide +kernel
theorem dX12_readValue_172 : decode cX12_readValue 172 = .ok (.iload 4, 2) := by decide +kernel
theorem dX12_readValue_174 : decode cX12_readValue 174 = .ok (.aload_n 0, 1) := by decide +kernel
theorem dX12_readValue_175 : decode cX12_readValue 175 = .ok (.getfield 119, 3) := by decide +kernel
theorem dX12_readValue_178 : decode cX12_readValue 178 = .ok (.bipush 16, 2) := by decide +kernel
theorem dX12_readValue_180 : decode cX12_readValue 180 = .ok (.iload_n 1, 1) := by decide +kernel
theorem dX12_readValue_181 : decode cX12_readValue 181 = .ok (.imul, 1) := by decide +kernel
theorem dX12_readValue_182 : decode cX12_readValue 182 = .ok (.invokevirtual 272, 3) := by decide +kernel
theorem dX12_readValue_185 : decode cX12_readValue 185 = .ok (.iastore, 1) := by decide +kernel
theorem dX12_readValue_186 : decode cX12_readValue 186 = .ok (.goto 193, 3) := by decide +kernel
theorem dX12_readValue_189 : decode cX12_readValue 189 = .ok (.iload_n 3, 1) := by decide +kernel
theorem dX12_readValue_190 : decode cX12_readValue 190 = .ok (.bipush 64, 2) := by decide +kernel
theorem dX12_readValue_192 : decode cX12_readValue 192 = .ok (.if_icmp .ne 59, 3) := by decide +kernel
theorem dX12_readValue_195 : decode cX12_readValue 195 = .ok (.iload 5, 2) := by decide +kernel
theorem dX12_readValue_197 : decode cX12_readValue 197 = .ok (.iconst 4, 1) := by decide +kernel
theorem dX12_readValue_198 : decode cX12_readValue 198 = .ok (.if_icmp .eq 9, 3) := by decide +kernel
theorem dX12_readValue_201 : decode cX12_readValue 201 = .ok (.aload_n 0, 1) := by decide +kernel
theorem dX12_readValue_202 : decode cX12_readValue 202 = .ok (.iconst 1, 1) := by decide +kernel
theorem dX12_readValue_203 : decode cX12_readValue 203 = .ok (.putfield 241, 3) := by decide +kernel
theorem dX12_readValue_206 : decode cX12_readValue 206 = .ok (.return_, 1) := by decide +kernel
theorem dX12_readValue_207 : decode cX12_readValue 207 = .ok (.lconst 0, 1) := by decide +kernel
theorem dX12_readValue_208 : decode cX12_readValue 208 = .ok (.lstore 6, 2) := by decide +kernel
theorem dX12_readValue_210 : decode cX12_readValue 210 = .ok (.iconst 0, 1) := by decide +kernel
theorem dX12_readValue_211 : decode cX12_readValue 211 = .ok (.istore 8, 2) := by decide +kernel
theorem dX12_readValue_213 : decode cX12_readValue 213 = .ok (.iload 8, 2) := by decide +kernel
theorem dX12_readValue_215 : decode cX12_readValue 215 = .ok (.iconst 4, 1) := by decide +kernel
theorem dX12_readValue_216 : decode cX12_readValue 216 = .ok (.if_icmp .ge 24, 3) := by decide +kernel
theorem dX12_readValue_219 : decode cX12_readValue 219 = .ok (.lload 6, 2) := by decide +kernel
theorem dX12_readValue_221 : decode cX12_readValue 221 = .ok (.bipush 8, 2) := by decide +kernel
theorem dX12_readValue_223 : decode cX12_readValue 223 = .ok (.lshl, 1) := by decide +kernel
theorem dX12_readValue_224 : decode cX12_readValue 224 = .ok (.aload_n 0, 1) := by decide +kernel
theorem dX12_readValue_225 : decode cX12_readValue 225 = .ok (.iload 4, 2) := by decide +kernel
theorem dX12_readValue_227 : decode cX12_readValue 227 = .ok (.invokevirtual 244, 3) := by decide +kernel
theorem dX12_readValue_230 : decode cX12_readValue 230 = .ok (.i2l, 1) := by decide +kernel
theorem dX12_readValue_231 : decode cX12_readValue 231 = .ok (.lor, 1) := by decide +kernel
theorem dX12_readValue_232 : decode cX12_readValue 232 = .ok (.lstore 6, 2) := by decide +kernel
theorem dX12_readValue_234 : decode cX12_readValue 234 = .ok (.iinc 8 1, 3) := by decide +kernel
theorem dX12_readValue_237 : decode cX12_readValue 237 = .ok (.goto (-24), 3) := by decide +kernel
theorem dX12_readValue_240 : decode cX12_readValue 240 = .ok (.aload_n 0, 1) := by decide +kernel
theorem dX12_readValue_241 : decode cX12_readValue 241 = .ok (.getfield 110, 3) := by decide +kernel
theorem dX12_readValue_244 : decode cX12_readValue 244 = .ok (.iload_n 1, 1) := by decide +kernel
theorem dX12_readValue_245 : decode cX12_readValue 245 = .ok (.lload 6, 2) := by decide +kernel
theorem dX12_readValue_247 : decode cX12_readValue 247 = .ok (.lastore, 1) := by decide +kernel
theorem dX12_readValue_248 : decode cX12_readValue 248 = .ok (.goto 131, 3) := by decide +kernel
theorem dX12_readValue_251 : decode cX12_readValue 251 = .ok (.aload_n 0, 1) := by decide +kernel
theorem dX12_readValue_252 : decode cX12_readValue 252 = .ok (.iload 4, 2) := by decide +kernel
theorem dX12_readValue_254 : decode cX12_readValue 254 = .ok (.invokevirtual 264, 3) := by decide +kernel
theorem dX12_readValue_257 : decode cX12_readValue 257 = .ok (.lstore 6, 2) := by decide +kernel
theorem dX12_readValue_259 : decode cX12_readValue 259 = .ok (.iload_n 3, 1) := by decide +kernel
theorem dX12_readValue_260 : decode cX12_readValue 260 = .ok (.iconst 2, 1) := by decide +kernel
theorem dX12_readValue_261 : decode cX12_readValue 261 = .ok (.if_icmp .ne 32, 3) := by decide +kernel
theorem dX12_readValue_264 : decode cX12_readValue 264 = .ok (.aload_n 0, 1) := by decide +kernel
theorem dX12_readValue_265 : decode cX12_readValue 265 = .ok (.getfield 257, 3) := by decide +kernel
theorem dX12_readValue_268 : decode cX12_readValue 268 = .ok (.ifCond .ne 21, 3) := by decide +kernel
theorem dX12_readValue_271 : decode cX12_readValue 271 = .ok (.lload 6, 2) := by decide +kernel
theorem dX12_readValue_273 : decode cX12_readValue 273 = .ok (.ldc2_w 211, 3) := by decide +kernel
theorem dX12_readValue_276 : decode cX12_readValue 276 = .ok (.ldc2_w 213, 3) := by decide +kernel
theorem dX12_readValue_279 : decode cX12_readValue 279 = .ok (.invokestatic 142, 3) := by decide +kernel
theorem dX12_readValue_282 : decode cX12_readValue 282 = .ok (.ifCond .eq 7, 3) := by decide +kernel
theorem dX12_readValue_285 : decode cX12_readValue 285 = .ok (.iconst 1, 1) := by decide +kernel
theorem dX12_readValue_286 : decode cX12_readValue 286 = .ok (.goto 59, 3) := by decide +kernel
theorem dX12_readValue_289 : decode cX12_readValue 289 = .ok (.iconst 0, 1) := by decide +kernel
theorem dX12_readValue_290 : decode cX12_readValue 290 = .ok (.goto 55, 3) := by decide +kernel
theorem dX12_readValue_293 : decode cX12_readValue 293 = .ok (.iload_n 3, 1) := by decide +kernel
theorem dX12_readValue_294 : decode cX12_readValue 294 = .ok (.bipush 70, 2) := by decide +kernel
theorem dX12_readValue_296 : decode cX12_readValue 296 = .ok (.if_icmp .ne 25, 3) := by decide +kernel
theorem dX12_readValue_299 : decode cX12_readValue 299 = .ok (.aload_n 0, 1) := by decide +kernel
theorem dX12_readValue_300 : decode cX12_readValue 300 = .ok (.getfield 257, 3) := by decide +kernel
theorem dX12_readValue_303 : decode cX12_readValue 303 = .ok (.ifCond .ne 10, 3) := by decide +kernel
theorem dX12_readValue_306 : decode cX12_readValue 306 = .ok (.lload 6, 2) := by decide +kernel
theorem dX12_readValue_308 : decode cX12_readValue 308 = .ok (.lconst 0, 1) := by decide +kernel
theorem dX12_readValue_309 : decode cX12_readValue 309 = .ok (.lcmp, 1) := by decide +kernel
theorem dX12_readValue_310 : decode cX12_readValue 310 = .ok (.ifCond .lt 7, 3) := by decide +kernel
theorem dX12_readValue_313 : decode cX12_readValue 313 = .ok (.iconst 1, 1) := by decide +kernel
theorem dX12_readValue_314 : decode cX12_readValue 314 = .ok (.goto 31, 3) := by decide +kernel
theorem dX12_readValue_317 : decode cX12_readValue 317 = .ok (.iconst 0, 1) := by decide +kernel
theorem dX12_readValue_318 : decode cX12_readValue 318 = .ok (.goto 27, 3) := by decide +kernel
theorem dX12_readValue_321 : decode cX12_readValue 321 = .ok (.aload_n 0, 1) := by decide +kernel
theorem dX12_readValue_322 : decode cX12_readValue 322 = .ok (.getfield 257, 3) := by decide +kernel
theorem dX12_readValue_325 : decode cX12_readValue 325 = .ok (.ifCond .ne 19, 3) := by decide +kernel
theorem dX12_readValue_328 : decode cX12_readValue 328 = .ok (.lload 6, 2) := by decide +kernel
theorem dX12_readValue_330 : decode cX12_readValue 330 = .ok (.lconst 0, 1) := by decide +kernel
theorem dX12_readValue_331 : decode cX12_readValue 331 = .ok (.ldc2_w 158, 3) := by decide +kernel
theorem dX12_readValue_334 : decode cX12_readValue 334 = .ok (.invokestatic 142, 3) := by decide +kernel
theorem dX12_readValue_337 : decode cX12_readValue 337 = .ok (.ifCond .eq 7, 3) := by decide +kernel
theorem dX12_readValue_340 : decode cX12_readValue 340 = .ok (.iconst 1, 1) := by decide +kernel
theorem dX12_readValue_341 : decode cX12_readValue 341 = .ok (.goto 4, 3) := by decide +kernel
theorem dX12_readValue_344 : decode cX12_readValue 344 = .ok (.iconst 0, 1) := by decide +kernel
theorem dX12_readValue_345 : decode cX12_readValue 345 = .ok (.istore 8, 2) := by decide +kernel
theorem dX12_readValue_347 : decode cX12_readValue 347 = .ok (.aload_n 0, 1) := by decide +kernel
theorem dX12_readValue_348 : decode cX12_readValue 348 = .ok (.aload_n 0, 1) := by decide +kernel
theorem dX12_readValue_349 : decode cX12_readValue 349 = .ok (.getfield 241, 3) := by decide +kernel
theorem dX12_readValue_352 : decode cX12_readValue 352 = .ok (.ifCond .ne 12, 3) := by decide +kernel
theorem dX12_readValue_355 : decode cX12_readValue 355 = .ok (.iload 8, 2) := by decide +kernel
theorem dX12_readValue_357 : decode cX12_readValue 357 = .ok (.ifCond .ne 7, 3) := by decide +kernel
theorem dX12_readValue_360 : decode cX12_readValue 360 = .ok (.iconst 1, 1) := by decide +kernel
theorem dX12_readValue_361 : decode cX12_readValue 361 = .ok (.goto 7, 3) := by decide +kernel
theorem dX12_readValue_364 : decode cX12_readValue 364 = .ok (.aload_n 0, 1) := by decide +kernel
theorem dX12_readValue_365 : decode cX12_readValue 365 = .ok (.getfield 241, 3) := by decide +kernel
theorem dX12_readValue_368 : decode cX12_readValue 368 = .ok (.putfield 241, 3) := by decide +kernel
theorem dX12_readValue_371 : decode cX12_readValue 371 = .ok (.aload_n 0, 1) := by decide +kernel
theorem dX12_readValue_372 : decode cX12_readValue 372 = .ok (.getfield 110, 3) := by decide +kernel
theorem dX12_readValue_375 : decode cX12_readValue 375 = .ok (.iload_n 1, 1) := by decide +kernel
theorem dX12_readValue_376 : decode cX12_readValue 376 = .ok (.lload 6, 2) := by decide +kernel
theorem dX12_readValue_378 : decode cX12_readValue 378 = .ok (.lastore, 1) := by decide +kernel
theorem dX12_readValue_379 : decode cX12_readValue 379 = .ok (.return_, 1) := by decide +kernel
theorem dX12_readRow_0 : decode cX12_readRow 0 = .ok (.aload_n 0, 1) := by decide +kernel
theorem dX12_readRow_1 : decode cX12_readRow 1 = .ok (.bipush 48, 2) := by decide +kernel
theorem dX12_readRow_3 : decode cX12_readRow 3 = .ok (.iload_n 1, 1) := by decide +kernel
theorem dX12_readRow_4 : decode cX12_readRow 4 = .ok (.invokevirtual 261, 3) := by decide +kernel
theorem dX12_readRow_7 : decode cX12_readRow 7 = .ok (.istore_n 2, 1) := by decide +kernel
theorem dX12_readRow_8 : decode cX12_readRow 8 = .ok (.aload_n 0, 1) := by decide +kernel
theorem dX12_readRow_9 : decode cX12_readRow 9 = .ok (.getfield 241, 3) := by decide +kernel
theorem dX12_readRow_12 : decode cX12_readRow 12 = .ok (.ifCond .ne 13, 3) := by decide +kernel
theorem dX12_readRow_15 : decode cX12_readRow 15 = .ok (.aload_n 0, 1) := by decide +kernel
theorem dX12_readRow_16 : decode cX12_readRow 16 = .ok (.bipush 6, 2) := by decide +kernel
theorem dX12_readRow_18 : decode cX12_readRow 18 = .ok (.iload_n 2, 1) := by decide +kernel
theorem dX12_readRow_19 : decode cX12_readRow 19 = .ok (.invokevirtual 261, 3) := by decide +kernel
theorem dX12_readRow_22 : decode cX12_readRow 22 = .ok (.goto 7, 3) := by decide +kernel
theorem dX12_readRow_25 : decode cX12_readRow 25 = .ok (.aload_n 0, 1) := by decide +kernel
theorem dX12_readRow_26 : decode cX12_readRow 26 = .ok (.getfield 238, 3) := by decide +kernel
theorem dX12_readRow_29 : decode cX12_readRow 29 = .ok (.istore_n 3, 1) := by decide +kernel
theorem dX12_readRow_30 : decode cX12_readRow 30 = .ok (.aload_n 0, 1) := by decide +kernel
theorem dX12_readRow_31 : decode cX12_readRow 31 = .ok (.getfield 276, 3) := by decide +kernel
theorem dX12_readRow_34 : decode cX12_readRow 34 = .ok (.istore 4, 2) := by decide +kernel
theorem dX12_readRow_36 : decode cX12_readRow 36 = .ok (.aload_n 0, 1) := by decide +kernel
theorem dX12_readRow_37 : decode cX12_readRow 37 = .ok (.getfield 241, 3) := by decide +kernel
theorem dX12_readRow_40 : decode cX12_readRow 40 = .ok (.ifCond .ne 24, 3) := by decide +kernel
theorem dX12_readRow_43 : decode cX12_readRow 43 = .ok (.aload_n 0, 1) := by decide +kernel
theorem dX12_readRow_44 : decode cX12_readRow 44 = .ok (.getfield 104, 3) := by decide +kernel
theorem dX12_readRow_47 : decode cX12_readRow 47 = .ok (.iload 4, 2) := by decide +kernel
theorem dX12_readRow_49 : decode cX12_readRow 49 = .ok (.aload_n 0, 1) := by decide +kernel
theorem dX12_readRow_50 : decode cX12_readRow 50 = .ok (.iload_n 3, 1) := by decide +kernel
theorem dX12_readRow_51 : decode cX12_readRow 51 = .ok (.aload_n 0, 1) := by decide +kernel
theorem dX12_readRow_52 : decode cX12_readRow 52 = .ok (.getfield 101, 3) := by decide +kernel
theorem dX12_readRow_55 : decode cX12_readRow 55 = .ok (.bipush 16, 2) := by decide +kernel
theorem dX12_readRow_57 : decode cX12_readRow 57 = .ok (.iload 4, 2) := by decide +kernel
theorem dX12_readRow_59 : decode cX12_readRow 59 = .ok (.imul, 1) := by decide +kernel
theorem dX12_readRow_60 : decode cX12_readRow 60 = .ok (.invokevirtual 272, 3) := by decide +kernel
theorem dX12_readRow_63 : decode cX12_readRow 63 = .ok (.iastore, 1) := by decide +kernel
theorem dX12_readRow_64 : decode cX12_readRow 64 = .ok (.aload_n 0, 1) := by decide +kernel
theorem dX12_readRow_65 : decode cX12_readRow 65 = .ok (.getfield 241, 3) := by decide +kernel
theorem dX12_readRow_68 : decode cX12_readRow 68 = .ok (.ifCond .ne 10, 3) := by decide +kernel
theorem dX12_readRow_71 : decode cX12_readRow 71 = .ok (.aload_n 0, 1) := by decide +kernel
theorem dX12_readRow_72 : decode cX12_readRow 72 = .ok (.iload 4, 2) := by decide +kernel
theorem dX12_readRow_74 : decode cX12_readRow 74 = .ok (.iload_n 2, 1) := by decide +kernel
theorem dX12_readRow_75 : decode cX12_readRow 75 = .ok (.invokevirtual 279, 3) := by decide +kernel
theorem dX12_readRow_78 : decode cX12_readRow 78 = .ok (.aload_n 0, 1) := by decide +kernel
theorem dX12_readRow_79 : decode cX12_readRow 79 = .ok (.getfield 241, 3) := by decide +kernel
theorem dX12_readRow_82 : decode cX12_readRow 82 = .ok (.ifCond .ne 16, 3) := by decide +kernel
theorem dX12_readRow_85 : decode cX12_readRow 85 = .ok (.aload_n 0, 1) := by decide +kernel
theorem dX12_readRow_86 : decode cX12_readRow 86 = .ok (.getfield 238, 3) := by decide +kernel
theorem dX12_readRow_89 : decode cX12_readRow 89 = .ok (.iload_n 2, 1) := by decide +kernel
theorem dX12_readRow_90 : decode cX12_readRow 90 = .ok (.if_icmp .eq 8, 3) := by decide +kernel
theorem dX12_readRow_93 : decode cX12_readRow 93 = .ok (.aload_n 0, 1) := by decide +kernel
theorem dX12_readRow_94 : decode cX12_readRow 94 = .ok (.iconst 1, 1) := by decide +kernel
theorem dX12_readRow_95 : decode cX12_readRow 95 = .ok (.putfield 241, 3) := by decide +kernel
theorem dX12_readRow_98 : decode cX12_readRow 98 = .ok (.aload_n 0, 1) := by decide +kernel
theorem dX12_readRow_99 : decode cX12_readRow 99 = .ok (.dup, 1) := by decide +kernel
theorem dX12_readRow_100 : decode cX12_readRow 100 = .ok (.getfield 276, 3) := by decide +kernel
theorem dX12_readRow_103 : decode cX12_readRow 103 = .ok (.iconst 1, 1) := by decide +kernel
theorem dX12_readRow_104 : decode cX12_readRow 104 = .ok (.iadd, 1) := by decide +kernel
theorem dX12_readRow_105 : decode cX12_readRow 105 = .ok (.putfield 276, 3) := by decide +kernel
theorem dX12_readRow_108 : decode cX12_readRow 108 = .ok (.return_, 1) := by decide +kernel
theorem dX12_readAll_0 : decode cX12_readAll 0 = .ok (.aload_n 0, 1) := by decide +kernel
theorem dX12_readAll_1 : decode cX12_readAll 1 = .ok (.iconst 0, 1) := by decide +kernel
theorem dX12_readAll_2 : decode cX12_readAll 2 = .ok (.putfield 241, 3) := by decide +kernel
theorem dX12_readAll_5 : decode cX12_readAll 5 = .ok (.aload_n 0, 1) := by decide +kernel
theorem dX12_readAll_6 : decode cX12_readAll 6 = .ok (.iconst 0, 1) := by decide +kernel
theorem dX12_readAll_7 : decode cX12_readAll 7 = .ok (.putfield 238, 3) := by decide +kernel
theorem dX12_readAll_10 : decode cX12_readAll 10 = .ok (.aload_n 0, 1) := by decide +kernel
theorem dX12_readAll_11 : decode cX12_readAll 11 = .ok (.iconst 0, 1) := by decide +kernel
theorem dX12_readAll_12 : decode cX12_readAll 12 = .ok (.putfield 276, 3) := by decide +kernel
theorem dX12_readAll_15 : decode cX12_readAll 15 = .ok (.aload_n 0, 1) := by decide +kernel
theorem dX12_readAll_16 : decode cX12_readAll 16 = .ok (.bipush 48, 2) := by decide +kernel
theorem dX12_readAll_18 : decode cX12_readAll 18 = .ok (.iload_n 1, 1) := by decide +kernel
theorem dX12_readAll_19 : decode cX12_readAll 19 = .ok (.invokevirtual 261, 3) := by decide +kernel
theorem dX12_readAll_22 : decode cX12_readAll 22 = .ok (.istore_n 2, 1) := by decide +kernel
theorem dX12_readAll_23 : decode cX12_readAll 23 = .ok (.aload_n 0, 1) := by decide +kernel
theorem dX12_readAll_24 : decode cX12_readAll 24 = .ok (.aload_n 0, 1) := by decide +kernel
theorem dX12_readAll_25 : decode cX12_readAll 25 = .ok (.getfield 241, 3) := by decide +kernel
theorem dX12_readAll_28 : decode cX12_readAll 28 = .ok (.ifCond .ne 12, 3) := by decide +kernel
theorem dX12_readAll_31 : decode cX12_readAll 31 = .ok (.iload_n 2, 1) := by decide +kernel
theorem dX12_readAll_32 : decode cX12_readAll 32 = .ok (.iload_n 1, 1) := by decide +kernel
theorem dX12_readAll_33 : decode cX12_readAll 33 = .ok (.if_icmp .eq 7, 3) := by decide +kernel
theorem dX12_readAll_36 : decode cX12_readAll 36 = .ok (.iconst 1, 1) := by decide +kernel
theorem dX12_readAll_37 : decode cX12_readAll 37 = .ok (.goto 7, 3) := by decide +kernel
theorem dX12_readAll_40 : decode cX12_readAll 40 = .ok (.aload_n 0, 1) := by decide +kernel
theorem dX12_readAll_41 : decode cX12_readAll 41 = .ok (.getfield 241, 3) := by decide +kernel
theorem dX12_readAll_44 : decode cX12_readAll 44 = .ok (.putfield 241, 3) := by decide +kernel
theorem dX12_readAll_47 : decode cX12_readAll 47 = .ok (.aload_n 0, 1) := by decide +kernel
theorem dX12_readAll_48 : decode cX12_readAll 48 = .ok (.aload_n 0, 1) := by decide +kernel
theorem dX12_readAll_49 : decode cX12_readAll 49 = .ok (.iload_n 2, 1) := by decide +kernel
theorem dX12_readAll_50 : decode cX12_readAll 50 = .ok (.invokevirtual 282, 3) := by decide +kernel
theorem dX12_readAll_53 : decode cX12_readAll 53 = .ok (.putfield 285, 3) := by decide +kernel
theorem dX12_readAll_56 : decode cX12_readAll 56 = .ok (.aload_n 0, 1) := by decide +kernel
theorem dX12_readAll_57 : decode cX12_readAll 57 = .ok (.getfield 241, 3) := by decide +kernel
theorem dX12_readAll_60 : decode cX12_readAll 60 = .ok (.ifCond .ne 21, 3) := by decide +kernel
theorem dX12_readAll_63 : decode cX12_readAll 63 = .ok (.aload_n 0, 1) := by decide +kernel
theorem dX12_readAll_64 : decode cX12_readAll 64 = .ok (.getfield 285, 3) := by decide +kernel
theorem dX12_readAll_67 : decode cX12_readAll 67 = .ok (.i2l, 1) := by decide +kernel
theorem dX12_readAll_68 : decode cX12_readAll 68 = .ok (.lconst 0, 1) := by decide +kernel
theorem dX12_readAll_69 : decode cX12_readAll 69 = .ok (.lconst 1, 1) := by decide +kernel
theorem dX12_readAll_70 : decode cX12_readAll 70 = .ok (.invokestatic 142, 3) := by decide +kernel
theorem dX12_readAll_73 : decode cX12_readAll 73 = .ok (.ifCond .ne 8, 3) := by decide +kernel
theorem dX12_readAll_76 : decode cX12_readAll 76 = .ok (.aload_n 0, 1) := by decide +kernel
theorem dX12_readAll_77 : decode cX12_readAll 77 = .ok (.iconst 2, 1) := by decide +kernel
theorem dX12_readAll_78 : decode cX12_readAll 78 = .ok (.putfield 241, 3) := by decide +kernel
theorem dX12_readAll_81 : decode cX12_readAll 81 = .ok (.aload_n 0, 1) := by decide +kernel
theorem dX12_readAll_82 : decode cX12_readAll 82 = .ok (.getfield 241, 3) := by decide +kernel
theorem dX12_readAll_85 : decode cX12_readAll 85 = .ok (.ifCond .ne 12, 3) := by decide +kernel
theorem dX12_readAll_88 : decode cX12_readAll 88 = .ok (.aload_n 0, 1) := by decide +kernel
theorem dX12_readAll_89 : decode cX12_readAll 89 = .ok (.iconst 4, 1) := by decide +kernel
theorem dX12_readAll_90 : decode cX12_readAll 90 = .ok (.iload_n 2, 1) := by decide +kernel
theorem dX12_readAll_91 : decode cX12_readAll 91 = .ok (.invokevirtual 261, 3) := by decide +kernel
theorem dX12_readAll_94 : decode cX12_readAll 94 = .ok (.goto 7, 3) := by decide +kernel
theorem dX12_readAll_97 : decode cX12_readAll 97 = .ok (.aload_n 0, 1) := by decide +kernel
theorem dX12_readAll_98 : decode cX12_readAll 98 = .ok (.getfield 238, 3) := by decide +kernel
theorem dX12_readAll_101 : decode cX12_readAll 101 = .ok (.istore_n 3, 1) := by decide +kernel
theorem dX12_readAll_102 : decode cX12_readAll 102 = .ok (.aload_n 0, 1) := by decide +kernel
theorem dX12_readAll_103 : decode cX12_readAll 103 = .ok (.aload_n 0, 1) := by decide +kernel
theorem dX12_readAll_104 : decode cX12_readAll 104 = .ok (.getfield 238, 3) := by decide +kernel
theorem dX12_readAll_107 : decode cX12_readAll 107 = .ok (.putfield 288, 3) := by decide +kernel
theorem dX12_readAll_110 : decode cX12_readAll 110 = .ok (.aload_n 0, 1) := by decide +kernel
theorem dX12_readAll_111 : decode cX12_readAll 111 = .ok (.iload_n 3, 1) := by decide +kernel
theorem dX12_readAll_112 : decode cX12_readAll 112 = .ok (.aload_n 0, 1) := by decide +kernel
theorem dX12_readAll_113 : decode cX12_readAll 113 = .ok (.getfield 238, 3) := by decide +kernel
theorem dX12_readAll_116 : decode cX12_readAll 116 = .ok (.isub, 1) := by decide +kernel
theorem dX12_readAll_117 : decode cX12_readAll 117 = .ok (.putfield 291, 3) := by decide +kernel
theorem dX12_readAll_120 : decode cX12_readAll 120 = .ok (.aload_n 0, 1) := by decide +kernel
theorem dX12_readAll_121 : decode cX12_readAll 121 = .ok (.getfield 241, 3) := by decide +kernel
theorem dX12_readAll_124 : decode cX12_readAll 124 = .ok (.ifCond .ne 17, 3) := by decide +kernel
theorem dX12_readAll_127 : decode cX12_readAll 127 = .ok (.aload_n 0, 1) := by decide +kernel
theorem dX12_readAll_128 : decode cX12_readAll 128 = .ok (.getfield 291, 3) := by decide +kernel
theorem dX12_readAll_131 : decode cX12_readAll 131 = .ok (.bipush 40, 2) := by decide +kernel
theorem dX12_readAll_133 : decode cX12_readAll 133 = .ok (.if_icmp .le 8, 3) := by decide +kernel
theorem dX12_readAll_136 : decode cX12_readAll 136 = .ok (.aload_n 0, 1) := by decide +kernel
theorem dX12_readAll_137 : decode cX12_readAll 137 = .ok (.iconst 1, 1) := by decide +kernel
theorem dX12_readAll_138 : decode cX12_readAll 138 = .ok (.putfield 241, 3) := by decide +kernel
theorem dX12_readAll_141 : decode cX12_readAll 141 = .ok (.aload_n 0, 1) := by decide +kernel
theorem dX12_readAll_142 : decode cX12_readAll 142 = .ok (.getfield 241, 3) := by decide +kernel
theorem dX12_readAll_145 : decode cX12_readAll 145 = .ok (.ifCond .eq 4, 3) := by decide +kernel
theorem dX12_readAll_148 : decode cX12_readAll 148 = .ok (.return_, 1) := by decide +kernel
theorem dX12_readAll_149 : decode cX12_readAll 149 = .ok (.aload_n 0, 1) := by decide +kernel
theorem dX12_readAll_150 : decode cX12_readAll 150 = .ok (.iload_n 3, 1) := by decide +kernel
theorem dX12_readAll_151 : decode cX12_readAll 151 = .ok (.putfield 238, 3) := by decide +kernel
theorem dX12_readAll_154 : decode cX12_readAll 154 = .ok (.aload_n 0, 1) := by decide +kernel
theorem dX12_readAll_155 : decode cX12_readAll 155 = .ok (.aload_n 0, 1) := by decide +kernel
theorem dX12_readAll_156 : decode cX12_readAll 156 = .ok (.aload_n 0, 1) := by decide +kernel
theorem dX12_readAll_157 : decode cX12_readAll 157 = .ok (.getfield 7, 3) := by decide +kernel
theorem dX12_readAll_160 : decode cX12_readAll 160 = .ok (.aload_n 0, 1) := by decide +kernel
theorem dX12_readAll_161 : decode cX12_readAll 161 = .ok (.getfield 288, 3) := by decide +kernel
theorem dX12_readAll_164 : decode cX12_readAll 164 = .ok (.aload_n 0, 1) := by decide +kernel
theorem dX12_readAll_165 : decode cX12_readAll 165 = .ok (.getfield 291, 3) := by decide +kernel
theorem dX12_readAll_168 : decode cX12_readAll 168 = .ok (.invokevirtual 222, 3) := by decide +kernel
theorem dX12_readAll_171 : decode cX12_readAll 171 = .ok (.putfield 294, 3) := by decide +kernel
theorem dX12_readAll_174 : decode cX12_readAll 174 = .ok (.aload_n 0, 1) := by decide +kernel
theorem dX12_readAll_175 : decode cX12_readAll 175 = .ok (.getfield 294, 3) := by decide +kernel
theorem dX12_readAll_178 : decode cX12_readAll 178 = .ok (.ifCond .ge 9, 3) := by decide +kernel
theorem dX12_readAll_181 : decode cX12_readAll 181 = .ok (.aload_n 0, 1) := by decide +kernel
theorem dX12_readAll_182 : decode cX12_readAll 182 = .ok (.iconst 3, 1) := by decide +kernel
theorem dX12_readAll_183 : decode cX12_readAll 183 = .ok (.putfield 241, 3) := by decide +kernel
theorem dX12_readAll_186 : decode cX12_readAll 186 = .ok (.return_, 1) := by decide +kernel
theorem dX12_readAll_187 : decode cX12_readAll 187 = .ok (.aload_n 0, 1) := by decide +kernel
theorem dX12_readAll_188 : decode cX12_readAll 188 = .ok (.aload_n 0, 1) := by decide +kernel
theorem dX12_readAll_189 : decode cX12_readAll 189 = .ok (.iload_n 2, 1) := by decide +kernel
theorem dX12_readAll_190 : decode cX12_readAll 190 = .ok (.invokevirtual 244, 3) := by decide +kernel
theorem dX12_readAll_193 : decode cX12_readAll 193 = .ok (.putfield 297, 3) := by decide +kernel
theorem dX12_readAll_196 : decode cX12_readAll 196 = .ok (.aload_n 0, 1) := by decide +kernel
theorem dX12_readAll_197 : decode cX12_readAll 197 = .ok (.getfield 241, 3) := by decide +kernel
theorem dX12_readAll_200 : decode cX12_readAll 200 = .ok (.ifCond .ne 56, 3) := by decide +kernel
theorem dX12_readAll_203 : decode cX12_readAll 203 = .ok (.aload_n 0, 1) := by decide +kernel
theorem dX12_readAll_204 : decode cX12_readAll 204 = .ok (.getfield 297, 3) := by decide +kernel
theorem dX12_readAll_207 : decode cX12_readAll 207 = .ok (.sipush 160, 3) := by decide +kernel
theorem dX12_readAll_210 : decode cX12_readAll 210 = .ok (.if_icmp .eq 46, 3) := by decide +kernel
theorem dX12_readAll_213 : decode cX12_readAll 213 = .ok (.aload_n 0, 1) := by decide +kernel
theorem dX12_readAll_214 : decode cX12_readAll 214 = .ok (.getfield 297, 3) := by decide +kernel
theorem dX12_readAll_217 : decode cX12_readAll 217 = .ok (.sipush 161, 3) := by decide +kernel
theorem dX12_readAll_220 : decode cX12_readAll 220 = .ok (.if_icmp .eq 36, 3) := by decide +kernel
theorem dX12_readAll_223 : decode cX12_readAll 223 = .ok (.aload_n 0, 1) := by decide +kernel
theorem dX12_readAll_224 : decode cX12_readAll 224 = .ok (.getfield 297, 3) := by decide +kernel
theorem dX12_readAll_227 : decode cX12_readAll 227 = .ok (.sipush 163, 3) := by decide +kernel
theorem dX12_readAll_230 : decode cX12_readAll 230 = .ok (.if_icmp .eq 26, 3) := by decide +kernel
theorem dX12_readAll_233 : decode cX12_readAll 233 = .ok (.aload_n 0, 1) := by decide +kernel
theorem dX12_readAll_234 : decode cX12_readAll 234 = .ok (.getfield 297, 3) := by decide +kernel
theorem dX12_readAll_237 : decode cX12_readAll 237 = .ok (.sipush 165, 3) := by decide +kernel
theorem dX12_readAll_240 : decode cX12_readAll 240 = .ok (.if_icmp .ne 11, 3) := by decide +kernel
theorem dX12_readAll_243 : decode cX12_readAll 243 = .ok (.aload_n 0, 1) := by decide +kernel
theorem dX12_readAll_244 : decode cX12_readAll 244 = .ok (.getfield 285, 3) := by decide +kernel
theorem dX12_readAll_247 : decode cX12_readAll 247 = .ok (.iconst 1, 1) := by decide +kernel
theorem dX12_readAll_248 : decode cX12_readAll 248 = .ok (.if_icmp .eq 8, 3) := by decide +kernel
theorem dX12_readAll_251 : decode cX12_readAll 251 = .ok (.aload_n 0, 1) := by decide +kernel
theorem dX12_readAll_252 : decode cX12_readAll 252 = .ok (.iconst 1, 1) := by decide +kernel
theorem dX12_readAll_253 : decode cX12_readAll 253 = .ok (.putfield 241, 3) := by decide +kernel
theorem dX12_readAll_256 : decode cX12_readAll 256 = .ok (.aload_n 0, 1) := by decide +kernel
theorem dX12_readAll_257 : decode cX12_readAll 257 = .ok (.getfield 241, 3) := by decide +kernel
theorem dX12_readAll_260 : decode cX12_readAll 260 = .ok (.ifCond .ne 11, 3) := by decide +kernel
theorem dX12_readAll_263 : decode cX12_readAll 263 = .ok (.aload_n 0, 1) := by decide +kernel
theorem dX12_readAll_264 : decode cX12_readAll 264 = .ok (.iload_n 2, 1) := by decide +kernel
theorem dX12_readAll_265 : decode cX12_readAll 265 = .ok (.invokevirtual 248, 3) := by decide +kernel
theorem dX12_readAll_268 : decode cX12_readAll 268 = .ok (.goto 7, 3) := by decide +kernel
theorem dX12_readAll_271 : decode cX12_readAll 271 = .ok (.aload_n 0, 1) := by decide +kernel
theorem dX12_readAll_272 : decode cX12_readAll 272 = .ok (.getfield 238, 3) := by decide +kernel
theorem dX12_readAll_275 : decode cX12_readAll 275 = .ok (.istore 4, 2) := by decide +kernel
theorem dX12_readAll_277 : decode cX12_readAll 277 = .ok (.aload_n 0, 1) := by decide +kernel
theorem dX12_readAll_278 : decode cX12_readAll 278 = .ok (.aload_n 0, 1) := by decide +kernel
theorem dX12_readAll_279 : decode cX12_readAll 279 = .ok (.getfield 241, 3) := by decide +kernel
theorem dX12_readAll_282 : decode cX12_readAll 282 = .ok (.ifCond .ne 13, 3) := by decide +kernel
theorem dX12_readAll_285 : decode cX12_readAll 285 = .ok (.iload 4, 2) := by decide +kernel
theorem dX12_readAll_287 : decode cX12_readAll 287 = .ok (.iload_n 1, 1) := by decide +kernel
theorem dX12_readAll_288 : decode cX12_readAll 288 = .ok (.if_icmp .eq 7, 3) := by decide +kernel
theorem dX12_readAll_291 : decode cX12_readAll 291 = .ok (.iconst 1, 1) := by decide +kernel
theorem dX12_readAll_292 : decode cX12_readAll 292 = .ok (.goto 7, 3) := by decide +kernel
theorem dX12_readAll_295 : decode cX12_readAll 295 = .ok (.aload_n 0, 1) := by decide +kernel
theorem dX12_readAll_296 : decode cX12_readAll 296 = .ok (.getfield 241, 3) := by decide +kernel
theorem dX12_readAll_299 : decode cX12_readAll 299 = .ok (.putfield 241, 3) := by decide +kernel
theorem dX12_readAll_302 : decode cX12_readAll 302 = .ok (.aload_n 0, 1) := by decide +kernel
theorem dX12_readAll_303 : decode cX12_readAll 303 = .ok (.aload_n 0, 1) := by decide +kernel
theorem dX12_readAll_304 : decode cX12_readAll 304 = .ok (.getfield 241, 3) := by decide +kernel
theorem dX12_readAll_307 : decode cX12_readAll 307 = .ok (.ifCond .ne 12, 3) := by decide +kernel
theorem dX12_readAll_310 : decode cX12_readAll 310 = .ok (.aload_n 0, 1) := by decide +kernel
theorem dX12_readAll_311 : decode cX12_readAll 311 = .ok (.iload 4, 2) := by decide +kernel
theorem dX12_readAll_313 : decode cX12_readAll 313 = .ok (.invokevirtual 282, 3) := by decide +kernel
theorem dX12_readAll_316 : decode cX12_readAll 316 = .ok (.goto 4, 3) := by decide +kernel
theorem dX12_readAll_319 : decode cX12_readAll 319 = .ok (.iconst 0, 1) := by decide +kernel
theorem dX12_readAll_320 : decode cX12_readAll 320 = .ok (.putfield 300, 3) := by decide +kernel
theorem dX12_readAll_323 : decode cX12_readAll 323 = .ok (.aload_n 0, 1) := by decide +kernel
theorem dX12_readAll_324 : decode cX12_readAll 324 = .ok (.aload_n 0, 1) := by decide +kernel
theorem dX12_readAll_325 : decode cX12_readAll 325 = .ok (.getfield 241, 3) := by decide +kernel
theorem dX12_readAll_328 : decode cX12_readAll 328 = .ok (.ifCond .ne 12, 3) := by decide +kernel
theorem dX12_readAll_331 : decode cX12_readAll 331 = .ok (.aload_n 0, 1) := by decide +kernel
theorem dX12_readAll_332 : decode cX12_readAll 332 = .ok (.iload 4, 2) := by decide +kernel
theorem dX12_readAll_334 : decode cX12_readAll 334 = .ok (.invokevirtual 282, 3) := by decide +kernel
theorem dX12_readAll_337 : decode cX12_readAll 337 = .ok (.goto 4, 3) := by decide +kernel
theorem dX12_readAll_340 : decode cX12_readAll 340 = .ok (.iconst 0, 1) := by decide +kernel
theorem dX12_readAll_341 : decode cX12_readAll 341 = .ok (.putfield 303, 3) := by decide +kernel
theorem dX12_readAll_344 : decode cX12_readAll 344 = .ok (.aload_n 0, 1) := by decide +kernel
theorem dX12_readAll_345 : decode cX12_readAll 345 = .ok (.aload_n 0, 1) := by decide +kernel
theorem dX12_readAll_346 : decode cX12_readAll 346 = .ok (.getfield 241, 3) := by decide +kernel
theorem dX12_readAll_349 : decode cX12_readAll 349 = .ok (.ifCond .ne 12, 3) := by decide +kernel
theorem dX12_readAll_352 : decode cX12_readAll 352 = .ok (.aload_n 0, 1) := by decide +kernel
theorem dX12_readAll_353 : decode cX12_readAll 353 = .ok (.iload 4, 2) := by decide +kernel
theorem dX12_readAll_355 : decode cX12_readAll 355 = .ok (.invokevirtual 282, 3) := by decide +kernel
theorem dX12_readAll_358 : decode cX12_readAll 358 = .ok (.goto 4, 3) := by decide +kernel
theorem dX12_readAll_361 : decode cX12_readAll 361 = .ok (.iconst 0, 1) := by decide +kernel
theorem dX12_readAll_362 : decode cX12_readAll 362 = .ok (.putfield 306, 3) := by decide +kernel
theorem dX12_readAll_365 : decode cX12_readAll 365 = .ok (.aload_n 0, 1) := by decide +kernel
theorem dX12_readAll_366 : decode cX12_readAll 366 = .ok (.getfield 241, 3) := by decide +kernel
theorem dX12_readAll_369 : decode cX12_readAll 369 = .ok (.ifCond .ne 14, 3) := by decide +kernel
theorem dX12_readAll_372 : decode cX12_readAll 372 = .ok (.aload_n 0, 1) := by decide +kernel
theorem dX12_readAll_373 : decode cX12_readAll 373 = .ok (.bipush 48, 2) := by decide +kernel
theorem dX12_readAll_375 : decode cX12_readAll 375 = .ok (.iload 4, 2) := by decide +kernel
theorem dX12_readAll_377 : decode cX12_readAll 377 = .ok (.invokevirtual 261, 3) := by decide +kernel
theorem dX12_readAll_380 : decode cX12_readAll 380 = .ok (.goto 7, 3) := by decide +kernel
theorem dX12_readAll_383 : decode cX12_readAll 383 = .ok (.aload_n 0, 1) := by decide +kernel
theorem dX12_readAll_384 : decode cX12_readAll 384 = .ok (.getfield 238, 3) := by decide +kernel
theorem dX12_readAll_387 : decode cX12_readAll 387 = .ok (.istore 5, 2) := by decide +kernel
theorem dX12_readAll_389 : decode cX12_readAll 389 = .ok (.aload_n 0, 1) := by decide +kernel
theorem dX12_readAll_390 : decode cX12_readAll 390 = .ok (.aload_n 0, 1) := by decide +kernel
theorem dX12_readAll_391 : decode cX12_readAll 391 = .ok (.getfield 241, 3) := by decide +kernel
theorem dX12_readAll_394 : decode cX12_readAll 394 = .ok (.ifCond .ne 13, 3) := by decide +kernel
theorem dX12_readAll_397 : decode cX12_readAll 397 = .ok (.iload 5, 2) := by decide +kernel
theorem dX12_readAll_399 : decode cX12_readAll 399 = .ok (.iload_n 1, 1) := by decide +kernel
theorem dX12_readAll_400 : decode cX12_readAll 400 = .ok (.if_icmp .eq 7, 3) := by decide +kernel
theorem dX12_readAll_403 : decode cX12_readAll 403 = .ok (.iconst 1, 1) := by decide +kernel
theorem dX12_readAll_404 : decode cX12_readAll 404 = .ok (.goto 7, 3) := by decide +kernel
theorem dX12_readAll_407 : decode cX12_readAll 407 = .ok (.aload_n 0, 1) := by decide +kernel
theorem dX12_readAll_408 : decode cX12_readAll 408 = .ok (.getfield 241, 3) := by decide +kernel
theorem dX12_readAll_411 : decode cX12_readAll 411 = .ok (.putfield 241, 3) := by decide +kernel
theorem dX12_readAll_414 : decode cX12_readAll 414 = .ok (.aload_n 0, 1) := by decide +kernel
theorem dX12_readAll_415 : decode cX12_readAll 415 = .ok (.getfield 241, 3) := by decide +kernel
theorem dX12_readAll_418 : decode cX12_readAll 418 = .ok (.ifCond .ne 38, 3) := by decide +kernel
theorem dX12_readAll_421 : decode cX12_readAll 421 = .ok (.aload_n 0, 1) := by decide +kernel
theorem dX12_readAll_422 : decode cX12_readAll 422 = .ok (.getfield 238, 3) := by decide +kernel
theorem dX12_readAll_425 : decode cX12_readAll 425 = .ok (.iload 5, 2) := by decide +kernel
theorem dX12_readAll_427 : decode cX12_readAll 427 = .ok (.if_icmp .ge 29, 3) := by decide +kernel
theorem dX12_readAll_430 : decode cX12_readAll 430 = .ok (.aload_n 0, 1) := by decide +kernel
theorem dX12_readAll_431 : decode cX12_readAll 431 = .ok (.getfield 276, 3) := by decide +kernel
theorem dX12_readAll_434 : decode cX12_readAll 434 = .ok (.bipush 20, 2) := by decide +kernel
theorem dX12_readAll_436 : decode cX12_readAll 436 = .ok (.if_icmp .ne 11, 3) := by decide +kernel
theorem dX12_readAll_439 : decode cX12_readAll 439 = .ok (.aload_n 0, 1) := by decide +kernel
theorem dX12_readAll_440 : decode cX12_readAll 440 = .ok (.iconst 1, 1) := by decide +kernel
theorem dX12_readAll_441 : decode cX12_readAll 441 = .ok (.putfield 241, 3) := by decide +kernel
theorem dX12_readAll_444 : decode cX12_readAll 444 = .ok (.goto (-30), 3) := by decide +kernel
theorem dX12_readAll_447 : decode cX12_readAll 447 = .ok (.aload_n 0, 1) := by decide +kernel
theorem dX12_readAll_448 : decode cX12_readAll 448 = .ok (.iload 5, 2) := by decide +kernel
theorem dX12_readAll_450 : decode cX12_readAll 450 = .ok (.invokevirtual 309, 3) := by decide +kernel
theorem dX12_readAll_453 : decode cX12_readAll 453 = .ok (.goto (-39), 3) := by decide +kernel
theorem dX12_readAll_456 : decode cX12_readAll 456 = .ok (.aload_n 0, 1) := by decide +kernel
theorem dX12_readAll_457 : decode cX12_readAll 457 = .ok (.getfield 241, 3) := by decide +kernel
theorem dX12_readAll_460 : decode cX12_readAll 460 = .ok (.ifCond .ne 33, 3) := by decide +kernel
theorem dX12_readAll_463 : decode cX12_readAll 463 = .ok (.aload_n 0, 1) := by decide +kernel
theorem dX12_readAll_464 : decode cX12_readAll 464 = .ok (.getfield 238, 3) := by decide +kernel
theorem dX12_readAll_467 : decode cX12_readAll 467 = .ok (.iload 4, 2) := by decide +kernel
theorem dX12_readAll_469 : decode cX12_readAll 469 = .ok (.if_icmp .ne 19, 3) := by decide +kernel
theorem dX12_readAll_472 : decode cX12_readAll 472 = .ok (.aload_n 0, 1) := by decide +kernel
theorem dX12_readAll_473 : decode cX12_readAll 473 = .ok (.getfield 238, 3) := by decide +kernel
theorem dX12_readAll_476 : decode cX12_readAll 476 = .ok (.iload_n 2, 1) := by decide +kernel
theorem dX12_readAll_477 : decode cX12_readAll 477 = .ok (.if_icmp .ne 11, 3) := by decide +kernel
theorem dX12_readAll_480 : decode cX12_readAll 480 = .ok (.aload_n 0, 1) := by decide +kernel
theorem dX12_readAll_481 : decode cX12_readAll 481 = .ok (.getfield 238, 3) := by decide +kernel
theorem dX12_readAll_484 : decode cX12_readAll 484 = .ok (.iload_n 1, 1) := by decide +kernel
theorem dX12_readAll_485 : decode cX12_readAll 485 = .ok (.if_icmp .eq 8, 3) := by decide +kernel
theorem dX12_readAll_488 : decode cX12_readAll 488 = .ok (.aload_n 0, 1) := by decide +kernel
theorem dX12_readAll_489 : decode cX12_readAll 489 = .ok (.iconst 1, 1) := by decide +kernel
theorem dX12_readAll_490 : decode cX12_readAll 490 = .ok (.putfield 241, 3) := by decide +kernel
theorem dX12_readAll_493 : decode cX12_readAll 493 = .ok (.return_, 1) := by decide +kernel
theorem dX12_inView_0 : decode cX12_inView 0 = .ok (.iconst (-1), 1) := by decide +kernel
theorem dX12_inView_1 : decode cX12_inView 1 = .ok (.istore 4, 2) := by decide +kernel
theorem dX12_inView_3 : decode cX12_inView 3 = .ok (.bipush 8, 2) := by decide +kernel
theorem dX12_inView_5 : decode cX12_inView 5 = .ok (.aload_n 0, 1) := by decide +kernel
theorem dX12_inView_6 : decode cX12_inView 6 = .ok (.getfield 294, 3) := by decide +kernel
theorem dX12_inView_9 : decode cX12_inView 9 = .ok (.imul, 1) := by decide +kernel
theorem dX12_inView_10 : decode cX12_inView 10 = .ok (.istore 5, 2) := by decide +kernel
theorem dX12_inView_12 : decode cX12_inView 12 = .ok (.iload 5, 2) := by decide +kernel
theorem dX12_inView_14 : decode cX12_inView 14 = .ok (.bipush 8, 2) := by decide +kernel
theorem dX12_inView_16 : decode cX12_inView 16 = .ok (.aload_n 0, 1) := by decide +kernel
theorem dX12_inView_17 : decode cX12_inView 17 = .ok (.getfield 294, 3) := by decide +kernel
theorem dX12_inView_20 : decode cX12_inView 20 = .ok (.imul, 1) := by decide +kernel
theorem dX12_inView_21 : decode cX12_inView 21 = .ok (.aload_n 0, 1) := by decide +kernel
theorem dX12_inView_22 : decode cX12_inView 22 = .ok (.getfield 89, 3) := by decide +kernel
theorem dX12_inView_25 : decode cX12_inView 25 = .ok (.aload_n 0, 1) := by decide +kernel
theorem dX12_inView_26 : decode cX12_inView 26 = .ok (.getfield 294, 3) := by decide +kernel
theorem dX12_inView_29 : decode cX12_inView 29 = .ok (.iaload, 1) := by decide +kernel
theorem dX12_inView_30 : decode cX12_inView 30 = .ok (.iadd, 1) := by decide +kernel
theorem dX12_inView_31 : decode cX12_inView 31 = .ok (.if_icmp .ge 69, 3) := by decide +kernel
theorem dX12_inView_34 : decode cX12_inView 34 = .ok (.aload_n 1, 1) := by decide +kernel
theorem dX12_inView_35 : decode cX12_inView 35 = .ok (.iload_n 2, 1) := by decide +kernel
theorem dX12_inView_36 : decode cX12_inView 36 = .ok (.iload_n 3, 1) := by decide +kernel
theorem dX12_inView_37 : decode cX12_inView 37 = .ok (.aload_n 0, 1) := by decide +kernel
theorem dX12_inView_38 : decode cX12_inView 38 = .ok (.getfield 92, 3) := by decide +kernel
theorem dX12_inView_41 : decode cX12_inView 41 = .ok (.bipush 16, 2) := by decide +kernel
theorem dX12_inView_43 : decode cX12_inView 43 = .ok (.iload 5, 2) := by decide +kernel
theorem dX12_inView_45 : decode cX12_inView 45 = .ok (.imul, 1) := by decide +kernel
theorem dX12_inView_46 : decode cX12_inView 46 = .ok (.aload_n 0, 1) := by decide +kernel
theorem dX12_inView_47 : decode cX12_inView 47 = .ok (.getfield 95, 3) := by decide +kernel
theorem dX12_inView_50 : decode cX12_inView 50 = .ok (.iload 5, 2) := by decide +kernel
theorem dX12_inView_52 : decode cX12_inView 52 = .ok (.iaload, 1) := by decide +kernel
theorem dX12_inView_53 : decode cX12_inView 53 = .ok (.invokestatic 163, 3) := by decide +kernel
theorem dX12_inView_56 : decode cX12_inView 56 = .ok (.istore 6, 2) := by decide +kernel
theorem dX12_inView_58 : decode cX12_inView 58 = .ok (.iload 6, 2) := by decide +kernel
theorem dX12_inView_60 : decode cX12_inView 60 = .ok (.ifCond .eq 30, 3) := by decide +kernel
theorem dX12_inView_63 : decode cX12_inView 63 = .ok (.iload 4, 2) := by decide +kernel
theorem dX12_inView_65 : decode cX12_inView 65 = .ok (.ifCond .lt 20, 3) := by decide +kernel
theorem dX12_inView_68 : decode cX12_inView 68 = .ok (.aload_n 0, 1) := by decide +kernel
theorem dX12_inView_69 : decode cX12_inView 69 = .ok (.getfield 95, 3) := by decide +kernel
theorem dX12_inView_72 : decode cX12_inView 72 = .ok (.iload 5, 2) := by decide +kernel
theorem dX12_inView_74 : decode cX12_inView 74 = .ok (.iaload, 1) := by decide +kernel
theorem dX12_inView_75 : decode cX12_inView 75 = .ok (.aload_n 0, 1) := by decide +kernel
theorem dX12_inView_76 : decode cX12_inView 76 = .ok (.getfield 95, 3) := by decide +kernel
theorem dX12_inView_79 : decode cX12_inView 79 = .ok (.iload 4, 2) := by decide +kernel
theorem dX12_inView_81 : decode cX12_inView 81 = .ok (.iaload, 1) := by decide +kernel
theorem dX12_inView_82 : decode cX12_inView 82 = .ok (.if_icmp .lt 8, 3) := by decide +kernel
theorem dX12_inView_85 : decode cX12_inView 85 = .ok (.iload 5, 2) := by decide +kernel
theorem dX12_inView_87 : decode cX12_inView 87 = .ok (.goto 5, 3) := by decide +kernel
theorem dX12_inView_90 : decode cX12_inView 90 = .ok (.iload 4, 2) := by decide +kernel
theorem dX12_inView_92 : decode cX12_inView 92 = .ok (.istore 4, 2) := by decide +kernel
theorem dX12_inView_94 : decode cX12_inView 94 = .ok (.iinc 5 1, 3) := by decide +kernel
theorem dX12_inView_97 : decode cX12_inView 97 = .ok (.goto (-85), 3) := by decide +kernel
theorem dX12_inView_100 : decode cX12_inView 100 = .ok (.iload 4, 2) := by decide +kernel
theorem dX12_inView_102 : decode cX12_inView 102 = .ok (.ifCond .lt 13, 3) := by decide +kernel
theorem dX12_inView_105 : decode cX12_inView 105 = .ok (.aload_n 0, 1) := by decide +kernel
theorem dX12_inView_106 : decode cX12_inView 106 = .ok (.getfield 98, 3) := by decide +kernel
theorem dX12_inView_109 : decode cX12_inView 109 = .ok (.iload 4, 2) := by decide +kernel
theorem dX12_inView_111 : decode cX12_inView 111 = .ok (.baload, 1) := by decide +kernel
theorem dX12_inView_112 : decode cX12_inView 112 = .ok (.ifCond .eq 7, 3) := by decide +kernel
theorem dX12_inView_115 : decode cX12_inView 115 = .ok (.iconst 1, 1) := by decide +kernel
theorem dX12_inView_116 : decode cX12_inView 116 = .ok (.goto 4, 3) := by decide +kernel
theorem dX12_inView_119 : decode cX12_inView 119 = .ok (.iconst 0, 1) := by decide +kernel
theorem dX12_inView_120 : decode cX12_inView 120 = .ok (.ireturn, 1) := by decide +kernel
theorem dX12_nameOf_0 : decode cX12_nameOf 0 = .ok (.iconst 0, 1) := by decide +kernel
theorem dX12_nameOf_1 : decode cX12_nameOf 1 = .ok (.istore_n 3, 1) := by decide +kernel
theorem dX12_nameOf_2 : decode cX12_nameOf 2 = .ok (.iload_n 3, 1) := by decide +kernel
theorem dX12_nameOf_3 : decode cX12_nameOf 3 = .ok (.aload_n 0, 1) := by decide +kernel
theorem dX12_nameOf_4 : decode cX12_nameOf 4 = .ok (.getfield 28, 3) := by decide +kernel
theorem dX12_nameOf_7 : decode cX12_nameOf 7 = .ok (.iload_n 1, 1) := by decide +kernel
theorem dX12_nameOf_8 : decode cX12_nameOf 8 = .ok (.iaload, 1) := by decide +kernel
theorem dX12_nameOf_9 : decode cX12_nameOf 9 = .ok (.if_icmp .ge 26, 3) := by decide +kernel
theorem dX12_nameOf_12 : decode cX12_nameOf 12 = .ok (.aload_n 0, 1) := by decide +kernel
theorem dX12_nameOf_13 : decode cX12_nameOf 13 = .ok (.getfield 125, 3) := by decide +kernel
theorem dX12_nameOf_16 : decode cX12_nameOf 16 = .ok (.iload_n 3, 1) := by decide +kernel
theorem dX12_nameOf_17 : decode cX12_nameOf 17 = .ok (.aload_n 0, 1) := by decide +kernel
theorem dX12_nameOf_18 : decode cX12_nameOf 18 = .ok (.getfield 25, 3) := by decide +kernel
theorem dX12_nameOf_21 : decode cX12_nameOf 21 = .ok (.bipush 16, 2) := by decide +kernel
theorem dX12_nameOf_23 : decode cX12_nameOf 23 = .ok (.iload_n 1, 1) := by decide +kernel
theorem dX12_nameOf_24 : decode cX12_nameOf 24 = .ok (.imul, 1) := by decide +kernel
theorem dX12_nameOf_25 : decode cX12_nameOf 25 = .ok (.iload_n 3, 1) := by decide +kernel
theorem dX12_nameOf_26 : decode cX12_nameOf 26 = .ok (.iadd, 1) := by decide +kernel
theorem dX12_nameOf_27 : decode cX12_nameOf 27 = .ok (.laload, 1) := by decide +kernel
theorem dX12_nameOf_28 : decode cX12_nameOf 28 = .ok (.lastore, 1) := by decide +kernel
theorem dX12_nameOf_29 : decode cX12_nameOf 29 = .ok (.iinc 3 1, 3) := by decide +kernel
theorem dX12_nameOf_32 : decode cX12_nameOf 32 = .ok (.goto (-30), 3) := by decide +kernel
theorem dX12_nameOf_35 : decode cX12_nameOf 35 = .ok (.aload_n 0, 1) := by decide +kernel
theorem dX12_nameOf_36 : decode cX12_nameOf 36 = .ok (.getfield 125, 3) := by decide +kernel
theorem dX12_nameOf_39 : decode cX12_nameOf 39 = .ok (.aload_n 0, 1) := by decide +kernel
theorem dX12_nameOf_40 : decode cX12_nameOf 40 = .ok (.getfield 28, 3) := by decide +kernel
theorem dX12_nameOf_43 : decode cX12_nameOf 43 = .ok (.iload_n 1, 1) := by decide +kernel
theorem dX12_nameOf_44 : decode cX12_nameOf 44 = .ok (.iaload, 1) := by decide +kernel
theorem dX12_nameOf_45 : decode cX12_nameOf 45 = .ok (.aload_n 0, 1) := by decide +kernel
theorem dX12_nameOf_46 : decode cX12_nameOf 46 = .ok (.getfield 43, 3) := by decide +kernel
theorem dX12_nameOf_49 : decode cX12_nameOf 49 = .ok (.iload_n 1, 1) := by decide +kernel
theorem dX12_nameOf_50 : decode cX12_nameOf 50 = .ok (.iaload, 1) := by decide +kernel
theorem dX12_nameOf_51 : decode cX12_nameOf 51 = .ok (.ifCond .ge 7, 3) := by decide +kernel
theorem dX12_nameOf_54 : decode cX12_nameOf 54 = .ok (.lconst 0, 1) := by decide +kernel
theorem dX12_nameOf_55 : decode cX12_nameOf 55 = .ok (.goto 20, 3) := by decide +kernel
theorem dX12_nameOf_58 : decode cX12_nameOf 58 = .ok (.aload_n 0, 1) := by decide +kernel
theorem dX12_nameOf_59 : decode cX12_nameOf 59 = .ok (.getfield 77, 3) := by decide +kernel
theorem dX12_nameOf_62 : decode cX12_nameOf 62 = .ok (.bipush 16, 2) := by decide +kernel
theorem dX12_nameOf_64 : decode cX12_nameOf 64 = .ok (.aload_n 0, 1) := by decide +kernel
theorem dX12_nameOf_65 : decode cX12_nameOf 65 = .ok (.getfield 43, 3) := by decide +kernel
theorem dX12_nameOf_68 : decode cX12_nameOf 68 = .ok (.iload_n 1, 1) := by decide +kernel
theorem dX12_nameOf_69 : decode cX12_nameOf 69 = .ok (.iaload, 1) := by decide +kernel
theorem dX12_nameOf_70 : decode cX12_nameOf 70 = .ok (.imul, 1) := by decide +kernel
theorem dX12_nameOf_71 : decode cX12_nameOf 71 = .ok (.iload_n 2, 1) := by decide +kernel
theorem dX12_nameOf_72 : decode cX12_nameOf 72 = .ok (.iadd, 1) := by decide +kernel
theorem dX12_nameOf_73 : decode cX12_nameOf 73 = .ok (.iaload, 1) := by decide +kernel
theorem dX12_nameOf_74 : decode cX12_nameOf 74 = .ok (.i2l, 1) := by decide +kernel
theorem dX12_nameOf_75 : decode cX12_nameOf 75 = .ok (.lastore, 1) := by decide +kernel
theorem dX12_nameOf_76 : decode cX12_nameOf 76 = .ok (.aload_n 0, 1) := by decide +kernel
theorem dX12_nameOf_77 : decode cX12_nameOf 77 = .ok (.aload_n 0, 1) := by decide +kernel
theorem dX12_nameOf_78 : decode cX12_nameOf 78 = .ok (.getfield 28, 3) := by decide +kernel
theorem dX12_nameOf_81 : decode cX12_nameOf 81 = .ok (.iload_n 1, 1) := by decide +kernel
theorem dX12_nameOf_82 : decode cX12_nameOf 82 = .ok (.iaload, 1) := by decide +kernel
theorem dX12_nameOf_83 : decode cX12_nameOf 83 = .ok (.iconst 1, 1) := by decide +kernel
theorem dX12_nameOf_84 : decode cX12_nameOf 84 = .ok (.iadd, 1) := by decide +kernel
theorem dX12_nameOf_85 : decode cX12_nameOf 85 = .ok (.putfield 313, 3) := by decide +kernel
theorem dX12_nameOf_88 : decode cX12_nameOf 88 = .ok (.return_, 1) := by decide +kernel
theorem dX12_isThere_0 : decode cX12_isThere 0 = .ok (.aload_n 0, 1) := by decide +kernel
theorem dX12_isThere_1 : decode cX12_isThere 1 = .ok (.getfield 43, 3) := by decide +kernel
theorem dX12_isThere_4 : decode cX12_isThere 4 = .ok (.iload_n 1, 1) := by decide +kernel
theorem dX12_isThere_5 : decode cX12_isThere 5 = .ok (.iaload, 1) := by decide +kernel
theorem dX12_isThere_6 : decode cX12_isThere 6 = .ok (.ifCond .ge 15, 3) := by decide +kernel
theorem dX12_isThere_9 : decode cX12_isThere 9 = .ok (.iload_n 2, 1) := by decide +kernel
theorem dX12_isThere_10 : decode cX12_isThere 10 = .ok (.ifCond .ne 7, 3) := by decide +kernel
theorem dX12_isThere_13 : decode cX12_isThere 13 = .ok (.iconst 1, 1) := by decide +kernel
theorem dX12_isThere_14 : decode cX12_isThere 14 = .ok (.goto 31, 3) := by decide +kernel
theorem dX12_isThere_17 : decode cX12_isThere 17 = .ok (.iconst 0, 1) := by decide +kernel
theorem dX12_isThere_18 : decode cX12_isThere 18 = .ok (.goto 27, 3) := by decide +kernel
theorem dX12_isThere_21 : decode cX12_isThere 21 = .ok (.aload_n 0, 1) := by decide +kernel
theorem dX12_isThere_22 : decode cX12_isThere 22 = .ok (.getfield 77, 3) := by decide +kernel
theorem dX12_isThere_25 : decode cX12_isThere 25 = .ok (.bipush 16, 2) := by decide +kernel
theorem dX12_isThere_27 : decode cX12_isThere 27 = .ok (.aload_n 0, 1) := by decide +kernel
theorem dX12_isThere_28 : decode cX12_isThere 28 = .ok (.getfield 43, 3) := by decide +kernel
theorem dX12_isThere_31 : decode cX12_isThere 31 = .ok (.iload_n 1, 1) := by decide +kernel
theorem dX12_isThere_32 : decode cX12_isThere 32 = .ok (.iaload, 1) := by decide +kernel
theorem dX12_isThere_33 : decode cX12_isThere 33 = .ok (.imul, 1) := by decide +kernel
theorem dX12_isThere_34 : decode cX12_isThere 34 = .ok (.iload_n 2, 1) := by decide +kernel
theorem dX12_isThere_35 : decode cX12_isThere 35 = .ok (.iadd, 1) := by decide +kernel
theorem dX12_isThere_36 : decode cX12_isThere 36 = .ok (.iaload, 1) := by decide +kernel
theorem dX12_isThere_37 : decode cX12_isThere 37 = .ok (.ifCond .le 7, 3) := by decide +kernel
theorem dX12_isThere_40 : decode cX12_isThere 40 = .ok (.iconst 1, 1) := by decide +kernel
theorem dX12_isThere_41 : decode cX12_isThere 41 = .ok (.goto 4, 3) := by decide +kernel
theorem dX12_isThere_44 : decode cX12_isThere 44 = .ok (.iconst 0, 1) := by decide +kernel
theorem dX12_isThere_45 : decode cX12_isThere 45 = .ok (.ireturn, 1) := by decide +kernel
theorem dX12_objectOf_0 : decode cX12_objectOf 0 = .ok (.iconst 0, 1) := by decide +kernel
theorem dX12_objectOf_1 : decode cX12_objectOf 1 = .ok (.istore 5, 2) := by decide +kernel
theorem dX12_objectOf_3 : decode cX12_objectOf 3 = .ok (.iload 5, 2) := by decide +kernel
theorem dX12_objectOf_5 : decode cX12_objectOf 5 = .ok (.aload_n 0, 1) := by decide +kernel
theorem dX12_objectOf_6 : decode cX12_objectOf 6 = .ok (.getfield 160, 3) := by decide +kernel
theorem dX12_objectOf_9 : decode cX12_objectOf 9 = .ok (.if_icmp .ge 49, 3) := by decide +kernel
theorem dX12_objectOf_12 : decode cX12_objectOf 12 = .ok (.aload_n 0, 1) := by decide +kernel
theorem dX12_objectOf_13 : decode cX12_objectOf 13 = .ok (.getfield 34, 3) := by decide +kernel
theorem dX12_objectOf_16 : decode cX12_objectOf 16 = .ok (.iload 5, 2) := by decide +kernel
theorem dX12_objectOf_18 : decode cX12_objectOf 18 = .ok (.iaload, 1) := by decide +kernel
theorem dX12_objectOf_19 : decode cX12_objectOf 19 = .ok (.iload 4, 2) := by decide +kernel
theorem dX12_objectOf_21 : decode cX12_objectOf 21 = .ok (.if_icmp .lt 31, 3) := by decide +kernel
theorem dX12_objectOf_24 : decode cX12_objectOf 24 = .ok (.aload_n 1, 1) := by decide +kernel
theorem dX12_objectOf_25 : decode cX12_objectOf 25 = .ok (.iload_n 2, 1) := by decide +kernel
theorem dX12_objectOf_26 : decode cX12_objectOf 26 = .ok (.iload_n 3, 1) := by decide +kernel
theorem dX12_objectOf_27 : decode cX12_objectOf 27 = .ok (.aload_n 0, 1) := by decide +kernel
theorem dX12_objectOf_28 : decode cX12_objectOf 28 = .ok (.getfield 25, 3) := by decide +kernel
theorem dX12_objectOf_31 : decode cX12_objectOf 31 = .ok (.bipush 16, 2) := by decide +kernel
theorem dX12_objectOf_33 : decode cX12_objectOf 33 = .ok (.iload 5, 2) := by decide +kernel
theorem dX12_objectOf_35 : decode cX12_objectOf 35 = .ok (.imul, 1) := by decide +kernel
theorem dX12_objectOf_36 : decode cX12_objectOf 36 = .ok (.aload_n 0, 1) := by decide +kernel
theorem dX12_objectOf_37 : decode cX12_objectOf 37 = .ok (.getfield 28, 3) := by decide +kernel
theorem dX12_objectOf_40 : decode cX12_objectOf 40 = .ok (.iload 5, 2) := by decide +kernel
theorem dX12_objectOf_42 : decode cX12_objectOf 42 = .ok (.iaload, 1) := by decide +kernel
theorem dX12_objectOf_43 : decode cX12_objectOf 43 = .ok (.invokestatic 163, 3) := by decide +kernel
theorem dX12_objectOf_46 : decode cX12_objectOf 46 = .ok (.ifCond .eq 6, 3) := by decide +kernel
theorem dX12_objectOf_49 : decode cX12_objectOf 49 = .ok (.iload 5, 2) := by decide +kernel
theorem dX12_objectOf_51 : decode cX12_objectOf 51 = .ok (.ireturn, 1) := by decide +kernel
theorem dX12_objectOf_52 : decode cX12_objectOf 52 = .ok (.iinc 5 1, 3) := by decide +kernel
theorem dX12_objectOf_55 : decode cX12_objectOf 55 = .ok (.goto (-52), 3) := by decide +kernel
theorem dX12_objectOf_58 : decode cX12_objectOf 58 = .ok (.iconst (-1), 1) := by decide +kernel
theorem dX12_objectOf_59 : decode cX12_objectOf 59 = .ok (.ireturn, 1) := by decide +kernel
theorem dX12_copyName_0 : decode cX12_copyName 0 = .ok (.iconst 0, 1) := by decide +kernel
theorem dX12_copyName_1 : decode cX12_copyName 1 = .ok (.istore_n 3, 1) := by decide +kernel
theorem dX12_copyName_2 : decode cX12_copyName 2 = .ok (.iload_n 3, 1) := by decide +kernel
theorem dX12_copyName_3 : decode cX12_copyName 3 = .ok (.aload_n 0, 1) := by decide +kernel
theorem dX12_copyName_4 : decode cX12_copyName 4 = .ok (.getfield 104, 3) := by decide +kernel
theorem dX12_copyName_7 : decode cX12_copyName 7 = .ok (.iload_n 1, 1) := by decide +kernel
theorem dX12_copyName_8 : decode cX12_copyName 8 = .ok (.iaload, 1) := by decide +kernel
theorem dX12_copyName_9 : decode cX12_copyName 9 = .ok (.if_icmp .ge 31, 3) := by decide +kernel
theorem dX12_copyName_12 : decode cX12_copyName 12 = .ok (.aload_n 0, 1) := by decide +kernel
theorem dX12_copyName_13 : decode cX12_copyName 13 = .ok (.getfield 101, 3) := by decide +kernel
theorem dX12_copyName_16 : decode cX12_copyName 16 = .ok (.bipush 16, 2) := by decide +kernel
theorem dX12_copyName_18 : decode cX12_copyName 18 = .ok (.iload_n 2, 1) := by decide +kernel
theorem dX12_copyName_19 : decode cX12_copyName 19 = .ok (.imul, 1) := by decide +kernel
theorem dX12_copyName_20 : decode cX12_copyName 20 = .ok (.iload_n 3, 1) := by decide +kernel
theorem dX12_copyName_21 : decode cX12_copyName 21 = .ok (.iadd, 1) := by decide +kernel
theorem dX12_copyName_22 : decode cX12_copyName 22 = .ok (.aload_n 0, 1) := by decide +kernel
theorem dX12_copyName_23 : decode cX12_copyName 23 = .ok (.getfield 101, 3) := by decide +kernel
theorem dX12_copyName_26 : decode cX12_copyName 26 = .ok (.bipush 16, 2) := by decide +kernel
theorem dX12_copyName_28 : decode cX12_copyName 28 = .ok (.iload_n 1, 1) := by decide +kernel
theorem dX12_copyName_29 : decode cX12_copyName 29 = .ok (.imul, 1) := by decide +kernel
theorem dX12_copyName_30 : decode cX12_copyName 30 = .ok (.iload_n 3, 1) := by decide +kernel
theorem dX12_copyName_31 : decode cX12_copyName 31 = .ok (.iadd, 1) := by decide +kernel
theorem dX12_copyName_32 : decode cX12_copyName 32 = .ok (.laload, 1) := by decide +kernel
theorem dX12_copyName_33 : decode cX12_copyName 33 = .ok (.lastore, 1) := by decide +kernel
theorem dX12_copyName_34 : decode cX12_copyName 34 = .ok (.iinc 3 1, 3) := by decide +kernel
theorem dX12_copyName_37 : decode cX12_copyName 37 = .ok (.goto (-35), 3) := by decide +kernel
theorem dX12_copyName_40 : decode cX12_copyName 40 = .ok (.aload_n 0, 1) := by decide +kernel
theorem dX12_copyName_41 : decode cX12_copyName 41 = .ok (.getfield 104, 3) := by decide +kernel
theorem dX12_copyName_44 : decode cX12_copyName 44 = .ok (.iload_n 2, 1) := by decide +kernel
theorem dX12_copyName_45 : decode cX12_copyName 45 = .ok (.aload_n 0, 1) := by decide +kernel
theorem dX12_copyName_46 : decode cX12_copyName 46 = .ok (.getfield 104, 3) := by decide +kernel
theorem dX12_copyName_49 : decode cX12_copyName 49 = .ok (.iload_n 1, 1) := by decide +kernel
theorem dX12_copyName_50 : decode cX12_copyName 50 = .ok (.iaload, 1) := by decide +kernel
theorem dX12_copyName_51 : decode cX12_copyName 51 = .ok (.iastore, 1) := by decide +kernel
theorem dX12_copyName_52 : decode cX12_copyName 52 = .ok (.return_, 1) := by decide +kernel
theorem dX12_numberOf_0 : decode cX12_numberOf 0 = .ok (.aload_n 0, 1) := by decide +kernel
theorem dX12_numberOf_1 : decode cX12_numberOf 1 = .ok (.getfield 31, 3) := by decide +kernel
theorem dX12_numberOf_4 : decode cX12_numberOf 4 = .ok (.iload_n 1, 1) := by decide +kernel
theorem dX12_numberOf_5 : decode cX12_numberOf 5 = .ok (.iaload, 1) := by decide +kernel
theorem dX12_numberOf_6 : decode cX12_numberOf 6 = .ok (.bipush 67, 2) := by decide +kernel
theorem dX12_numberOf_8 : decode cX12_numberOf 8 = .ok (.if_icmp .ne 33, 3) := by decide +kernel
theorem dX12_numberOf_11 : decode cX12_numberOf 11 = .ok (.aload_n 0, 1) := by decide +kernel
theorem dX12_numberOf_12 : decode cX12_numberOf 12 = .ok (.getfield 34, 3) := by decide +kernel
theorem dX12_numberOf_15 : decode cX12_numberOf 15 = .ok (.iload_n 1, 1) := by decide +kernel
theorem dX12_numberOf_16 : decode cX12_numberOf 16 = .ok (.iaload, 1) := by decide +kernel
theorem dX12_numberOf_17 : decode cX12_numberOf 17 = .ok (.iconst 1, 1) := by decide +kernel
theorem dX12_numberOf_18 : decode cX12_numberOf 18 = .ok (.if_icmp .ne 23, 3) := by decide +kernel
theorem dX12_numberOf_21 : decode cX12_numberOf 21 = .ok (.aload_n 0, 1) := by decide +kernel
theorem dX12_numberOf_22 : decode cX12_numberOf 22 = .ok (.getfield 43, 3) := by decide +kernel
theorem dX12_numberOf_25 : decode cX12_numberOf 25 = .ok (.iload_n 1, 1) := by decide +kernel
theorem dX12_numberOf_26 : decode cX12_numberOf 26 = .ok (.iaload, 1) := by decide +kernel
theorem dX12_numberOf_27 : decode cX12_numberOf 27 = .ok (.ifCond .ge 14, 3) := by decide +kernel
theorem dX12_numberOf_30 : decode cX12_numberOf 30 = .ok (.aload_n 0, 1) := by decide +kernel
theorem dX12_numberOf_31 : decode cX12_numberOf 31 = .ok (.getfield 232, 3) := by decide +kernel
theorem dX12_numberOf_34 : decode cX12_numberOf 34 = .ok (.ldc2_w 158, 3) := by decide +kernel
theorem dX12_numberOf_37 : decode cX12_numberOf 37 = .ok (.land, 1) := by decide +kernel
theorem dX12_numberOf_38 : decode cX12_numberOf 38 = .ok (.goto 9, 3) := by decide +kernel
theorem dX12_numberOf_41 : decode cX12_numberOf 41 = .ok (.aload_n 0, 1) := by decide +kernel
theorem dX12_numberOf_42 : decode cX12_numberOf 42 = .ok (.getfield 50, 3) := by decide +kernel
theorem dX12_numberOf_45 : decode cX12_numberOf 45 = .ok (.iload_n 2, 1) := by decide +kernel
theorem dX12_numberOf_46 : decode cX12_numberOf 46 = .ok (.laload, 1) := by decide +kernel
theorem dX12_numberOf_47 : decode cX12_numberOf 47 = .ok (.lreturn, 1) := by decide +kernel
theorem dX12_tell_0 : decode cX12_tell 0 = .ok (.bipush 16, 2) := by decide +kernel
theorem dX12_tell_2 : decode cX12_tell 2 = .ok (.iload_n 2, 1) := by decide +kernel
theorem dX12_tell_3 : decode cX12_tell 3 = .ok (.imul, 1) := by decide +kernel
theorem dX12_tell_4 : decode cX12_tell 4 = .ok (.iload_n 3, 1) := by decide +kernel
theorem dX12_tell_5 : decode cX12_tell 5 = .ok (.iadd, 1) := by decide +kernel
theorem dX12_tell_6 : decode cX12_tell 6 = .ok (.istore 4, 2) := by decide +kernel
theorem dX12_tell_8 : decode cX12_tell 8 = .ok (.aload_n 0, 1) := by decide +kernel
theorem dX12_tell_9 : decode cX12_tell 9 = .ok (.getfield 107, 3) := by decide +kernel
theorem dX12_tell_12 : decode cX12_tell 12 = .ok (.iload_n 1, 1) := by decide +kernel
theorem dX12_tell_13 : decode cX12_tell 13 = .ok (.aload_n 0, 1) := by decide +kernel
theorem dX12_tell_14 : decode cX12_tell 14 = .ok (.getfield 31, 3) := by decide +kernel
theorem dX12_tell_17 : decode cX12_tell 17 = .ok (.iload_n 2, 1) := by decide +kernel
theorem dX12_tell_18 : decode cX12_tell 18 = .ok (.iaload, 1) := by decide +kernel
theorem dX12_tell_19 : decode cX12_tell 19 = .ok (.iastore, 1) := by decide +kernel
theorem dX12_tell_20 : decode cX12_tell 20 = .ok (.aload_n 0, 1) := by decide +kernel
theorem dX12_tell_21 : decode cX12_tell 21 = .ok (.getfield 110, 3) := by decide +kernel
theorem dX12_tell_24 : decode cX12_tell 24 = .ok (.iload_n 1, 1) := by decide +kernel
theorem dX12_tell_25 : decode cX12_tell 25 = .ok (.aload_n 0, 1) := by decide +kernel
theorem dX12_tell_26 : decode cX12_tell 26 = .ok (.iload_n 2, 1) := by decide +kernel
theorem dX12_tell_27 : decode cX12_tell 27 = .ok (.iload 4, 2) := by decide +kernel
theorem dX12_tell_29 : decode cX12_tell 29 = .ok (.invokevirtual 316, 3) := by decide +kernel
theorem dX12_tell_32 : decode cX12_tell 32 = .ok (.lastore, 1) := by decide +kernel
theorem dX12_tell_33 : decode cX12_tell 33 = .ok (.aload_n 0, 1) := by decide +kernel
theorem dX12_tell_34 : decode cX12_tell 34 = .ok (.getfield 116, 3) := by decide +kernel
theorem dX12_tell_37 : decode cX12_tell 37 = .ok (.iload_n 1, 1) := by decide +kernel
theorem dX12_tell_38 : decode cX12_tell 38 = .ok (.aload_n 0, 1) := by decide +kernel
theorem dX12_tell_39 : decode cX12_tell 39 = .ok (.getfield 56, 3) := by decide +kernel
theorem dX12_tell_42 : decode cX12_tell 42 = .ok (.iload 4, 2) := by decide +kernel
theorem dX12_tell_44 : decode cX12_tell 44 = .ok (.iaload, 1) := by decide +kernel
theorem dX12_tell_45 : decode cX12_tell 45 = .ok (.iastore, 1) := by decide +kernel
theorem dX12_tell_46 : decode cX12_tell 46 = .ok (.iconst 0, 1) := by decide +kernel
theorem dX12_tell_47 : decode cX12_tell 47 = .ok (.istore 5, 2) := by decide +kernel
theorem dX12_tell_49 : decode cX12_tell 49 = .ok (.iload 5, 2) := by decide +kernel
theorem dX12_tell_51 : decode cX12_tell 51 = .ok (.aload_n 0, 1) := by decide +kernel
theorem dX12_tell_52 : decode cX12_tell 52 = .ok (.getfield 56, 3) := by decide +kernel
theorem dX12_tell_55 : decode cX12_tell 55 = .ok (.iload 4, 2) := by decide +kernel
theorem dX12_tell_57 : decode cX12_tell 57 = .ok (.iaload, 1) := by decide +kernel
theorem dX12_tell_58 : decode cX12_tell 58 = .ok (.if_icmp .ge 34, 3) := by decide +kernel
theorem dX12_tell_61 : decode cX12_tell 61 = .ok (.aload_n 0, 1) := by decide +kernel
theorem dX12_tell_62 : decode cX12_tell 62 = .ok (.getfield 113, 3) := by decide +kernel
theorem dX12_tell_65 : decode cX12_tell 65 = .ok (.bipush 40, 2) := by decide +kernel
theorem dX12_tell_67 : decode cX12_tell 67 = .ok (.iload_n 1, 1) := by decide +kernel
theorem dX12_tell_68 : decode cX12_tell 68 = .ok (.imul, 1) := by decide +kernel
theorem dX12_tell_69 : decode cX12_tell 69 = .ok (.iload 5, 2) := by decide +kernel
theorem dX12_tell_71 : decode cX12_tell 71 = .ok (.iadd, 1) := by decide +kernel
theorem dX12_tell_72 : decode cX12_tell 72 = .ok (.aload_n 0, 1) := by decide +kernel
theorem dX12_tell_73 : decode cX12_tell 73 = .ok (.getfield 53, 3) := by decide +kernel
theorem dX12_tell_76 : decode cX12_tell 76 = .ok (.bipush 40, 2) := by decide +kernel
theorem dX12_tell_78 : decode cX12_tell 78 = .ok (.iload 4, 2) := by decide +kernel
theorem dX12_tell_80 : decode cX12_tell 80 = .ok (.imul, 1) := by decide +kernel
theorem dX12_tell_81 : decode cX12_tell 81 = .ok (.iload 5, 2) := by decide +kernel
theorem dX12_tell_83 : decode cX12_tell 83 = .ok (.iadd, 1) := by decide +kernel
theorem dX12_tell_84 : decode cX12_tell 84 = .ok (.baload, 1) := by decide +kernel
theorem dX12_tell_85 : decode cX12_tell 85 = .ok (.bastore, 1) := by decide +kernel
theorem dX12_tell_86 : decode cX12_tell 86 = .ok (.iinc 5 1, 3) := by decide +kernel
theorem dX12_tell_89 : decode cX12_tell 89 = .ok (.goto (-40), 3) := by decide +kernel
theorem dX12_tell_92 : decode cX12_tell 92 = .ok (.aload_n 0, 1) := by decide +kernel
theorem dX12_tell_93 : decode cX12_tell 93 = .ok (.getfield 122, 3) := by decide +kernel
theorem dX12_tell_96 : decode cX12_tell 96 = .ok (.iload_n 1, 1) := by decide +kernel
theorem dX12_tell_97 : decode cX12_tell 97 = .ok (.aload_n 0, 1) := by decide +kernel
theorem dX12_tell_98 : decode cX12_tell 98 = .ok (.getfield 62, 3) := by decide +kernel
theorem dX12_tell_101 : decode cX12_tell 101 = .ok (.iload 4, 2) := by decide +kernel
theorem dX12_tell_103 : decode cX12_tell 103 = .ok (.iaload, 1) := by decide +kernel
theorem dX12_tell_104 : decode cX12_tell 104 = .ok (.iastore, 1) := by decide +kernel
theorem dX12_tell_105 : decode cX12_tell 105 = .ok (.iconst 0, 1) := by decide +kernel
theorem dX12_tell_106 : decode cX12_tell 106 = .ok (.istore 5, 2) := by decide +kernel
theorem dX12_tell_108 : decode cX12_tell 108 = .ok (.iload 5, 2) := by decide +kernel
theorem dX12_tell_110 : decode cX12_tell 110 = .ok (.aload_n 0, 1) := by decide +kernel
theorem dX12_tell_111 : decode cX12_tell 111 = .ok (.getfield 62, 3) := by decide +kernel
theorem dX12_tell_114 : decode cX12_tell 114 = .ok (.iload 4, 2) := by decide +kernel
theorem dX12_tell_116 : decode cX12_tell 116 = .ok (.iaload, 1) := by decide +kernel
theorem dX12_tell_117 : decode cX12_tell 117 = .ok (.if_icmp .ge 34, 3) := by decide +kernel
theorem dX12_tell_120 : decode cX12_tell 120 = .ok (.aload_n 0, 1) := by decide +kernel
theorem dX12_tell_121 : decode cX12_tell 121 = .ok (.getfield 119, 3) := by decide +kernel
theorem dX12_tell_124 : decode cX12_tell 124 = .ok (.bipush 16, 2) := by decide +kernel
theorem dX12_tell_126 : decode cX12_tell 126 = .ok (.iload_n 1, 1) := by decide +kernel
theorem dX12_tell_127 : decode cX12_tell 127 = .ok (.imul, 1) := by decide +kernel
theorem dX12_tell_128 : decode cX12_tell 128 = .ok (.iload 5, 2) := by decide +kernel
theorem dX12_tell_130 : decode cX12_tell 130 = .ok (.iadd, 1) := by decide +kernel
theorem dX12_tell_131 : decode cX12_tell 131 = .ok (.aload_n 0, 1) := by decide +kernel
theorem dX12_tell_132 : decode cX12_tell 132 = .ok (.getfield 59, 3) := by decide +kernel
theorem dX12_tell_135 : decode cX12_tell 135 = .ok (.bipush 16, 2) := by decide +kernel
theorem dX12_tell_137 : decode cX12_tell 137 = .ok (.iload 4, 2) := by decide +kernel
theorem dX12_tell_139 : decode cX12_tell 139 = .ok (.imul, 1) := by decide +kernel
theorem dX12_tell_140 : decode cX12_tell 140 = .ok (.iload 5, 2) := by decide +kernel
theorem dX12_tell_142 : decode cX12_tell 142 = .ok (.iadd, 1) := by decide +kernel
theorem dX12_tell_143 : decode cX12_tell 143 = .ok (.laload, 1) := by decide +kernel
theorem dX12_tell_144 : decode cX12_tell 144 = .ok (.lastore, 1) := by decide +kernel
theorem dX12_tell_145 : decode cX12_tell 145 = .ok (.iinc 5 1, 3) := by decide +kernel
theorem dX12_tell_148 : decode cX12_tell 148 = .ok (.goto (-40), 3) := by decide +kernel
theorem dX12_tell_151 : decode cX12_tell 151 = .ok (.return_, 1) := by decide +kernel
theorem dX12_get_0 : decode cX12_get 0 = .ok (.aload_n 0, 1) := by decide +kernel
theorem dX12_get_1 : decode cX12_get 1 = .ok (.iload_n 1, 1) := by decide +kernel
theorem dX12_get_2 : decode cX12_get 2 = .ok (.iload_n 2, 1) := by decide +kernel
theorem dX12_get_3 : decode cX12_get 3 = .ok (.invokevirtual 320, 3) := by decide +kernel
theorem dX12_get_6 : decode cX12_get 6 = .ok (.aload_n 0, 1) := by decide +kernel
theorem dX12_get_7 : decode cX12_get 7 = .ok (.aload_n 0, 1) := by decide +kernel
theorem dX12_get_8 : decode cX12_get 8 = .ok (.getfield 101, 3) := by decide +kernel
theorem dX12_get_11 : decode cX12_get 11 = .ok (.bipush 16, 2) := by decide +kernel
theorem dX12_get_13 : decode cX12_get 13 = .ok (.iload_n 1, 1) := by decide +kernel
theorem dX12_get_14 : decode cX12_get 14 = .ok (.imul, 1) := by decide +kernel
theorem dX12_get_15 : decode cX12_get 15 = .ok (.aload_n 0, 1) := by decide +kernel
theorem dX12_get_16 : decode cX12_get 16 = .ok (.getfield 104, 3) := by decide +kernel
theorem dX12_get_19 : decode cX12_get 19 = .ok (.iload_n 1, 1) := by decide +kernel
theorem dX12_get_20 : decode cX12_get 20 = .ok (.iaload, 1) := by decide +kernel
theorem dX12_get_21 : decode cX12_get 21 = .ok (.iconst 1, 1) := by decide +kernel
theorem dX12_get_22 : decode cX12_get 22 = .ok (.invokevirtual 323, 3) := by decide +kernel
theorem dX12_get_25 : decode cX12_get 25 = .ok (.istore_n 3, 1) := by decide +kernel
theorem dX12_get_26 : decode cX12_get 26 = .ok (.aload_n 0, 1) := by decide +kernel
theorem dX12_get_27 : decode cX12_get 27 = .ok (.aload_n 0, 1) := by decide +kernel
theorem dX12_get_28 : decode cX12_get 28 = .ok (.getfield 101, 3) := by decide +kernel
theorem dX12_get_31 : decode cX12_get 31 = .ok (.bipush 16, 2) := by decide +kernel
theorem dX12_get_33 : decode cX12_get 33 = .ok (.iload_n 1, 1) := by decide +kernel
theorem dX12_get_34 : decode cX12_get 34 = .ok (.imul, 1) := by decide +kernel
theorem dX12_get_35 : decode cX12_get 35 = .ok (.aload_n 0, 1) := by decide +kernel
theorem dX12_get_36 : decode cX12_get 36 = .ok (.getfield 104, 3) := by decide +kernel
theorem dX12_get_39 : decode cX12_get 39 = .ok (.iload_n 1, 1) := by decide +kernel
theorem dX12_get_40 : decode cX12_get 40 = .ok (.iaload, 1) := by decide +kernel
theorem dX12_get_41 : decode cX12_get 41 = .ok (.invokevirtual 327, 3) := by decide +kernel
theorem dX12_get_44 : decode cX12_get 44 = .ok (.istore 4, 2) := by decide +kernel
theorem dX12_get_46 : decode cX12_get 46 = .ok (.iload_n 3, 1) := by decide +kernel
theorem dX12_get_47 : decode cX12_get 47 = .ok (.ifCond .lt 108, 3) := by decide +kernel
theorem dX12_get_50 : decode cX12_get 50 = .ok (.iload 4, 2) := by decide +kernel
theorem dX12_get_52 : decode cX12_get 52 = .ok (.ifCond .eq 103, 3) := by decide +kernel
theorem dX12_get_55 : decode cX12_get 55 = .ok (.aload_n 0, 1) := by decide +kernel
theorem dX12_get_56 : decode cX12_get 56 = .ok (.getfield 104, 3) := by decide +kernel
theorem dX12_get_59 : decode cX12_get 59 = .ok (.iload_n 1, 1) := by decide +kernel
theorem dX12_get_60 : decode cX12_get 60 = .ok (.iaload, 1) := by decide +kernel
theorem dX12_get_61 : decode cX12_get 61 = .ok (.aload_n 0, 1) := by decide +kernel
theorem dX12_get_62 : decode cX12_get 62 = .ok (.getfield 28, 3) := by decide +kernel
theorem dX12_get_65 : decode cX12_get 65 = .ok (.iload_n 3, 1) := by decide +kernel
theorem dX12_get_66 : decode cX12_get 66 = .ok (.iaload, 1) := by decide +kernel
theorem dX12_get_67 : decode cX12_get 67 = .ok (.iconst 1, 1) := by decide +kernel
theorem dX12_get_68 : decode cX12_get 68 = .ok (.iadd, 1) := by decide +kernel
theorem dX12_get_69 : decode cX12_get 69 = .ok (.if_icmp .ne 86, 3) := by decide +kernel
theorem dX12_get_72 : decode cX12_get 72 = .ok (.aload_n 0, 1) := by decide +kernel
theorem dX12_get_73 : decode cX12_get 73 = .ok (.getfield 101, 3) := by decide +kernel
theorem dX12_get_76 : decode cX12_get 76 = .ok (.bipush 16, 2) := by decide +kernel
theorem dX12_get_78 : decode cX12_get 78 = .ok (.iload_n 1, 1) := by decide +kernel
theorem dX12_get_79 : decode cX12_get 79 = .ok (.imul, 1) := by decide +kernel
theorem dX12_get_80 : decode cX12_get 80 = .ok (.aload_n 0, 1) := by decide +kernel
theorem dX12_get_81 : decode cX12_get 81 = .ok (.getfield 28, 3) := by decide +kernel
theorem dX12_get_84 : decode cX12_get 84 = .ok (.iload_n 3, 1) := by decide +kernel
theorem dX12_get_85 : decode cX12_get 85 = .ok (.iaload, 1) := by decide +kernel
theorem dX12_get_86 : decode cX12_get 86 = .ok (.iadd, 1) := by decide +kernel
theorem dX12_get_87 : decode cX12_get 87 = .ok (.laload, 1) := by decide +kernel
theorem dX12_get_88 : decode cX12_get 88 = .ok (.lstore 5, 2) := by decide +kernel
theorem dX12_get_90 : decode cX12_get 90 = .ok (.aload_n 0, 1) := by decide +kernel
theorem dX12_get_91 : decode cX12_get 91 = .ok (.getfield 43, 3) := by decide +kernel
theorem dX12_get_94 : decode cX12_get 94 = .ok (.iload_n 3, 1) := by decide +kernel
theorem dX12_get_95 : decode cX12_get 95 = .ok (.iaload, 1) := by decide +kernel
theorem dX12_get_96 : decode cX12_get 96 = .ok (.ifCond .ge 18, 3) := by decide +kernel
theorem dX12_get_99 : decode cX12_get 99 = .ok (.lload 5, 2) := by decide +kernel
theorem dX12_get_101 : decode cX12_get 101 = .ok (.lconst 0, 1) := by decide +kernel
theorem dX12_get_102 : decode cX12_get 102 = .ok (.lcmp, 1) := by decide +kernel
theorem dX12_get_103 : decode cX12_get 103 = .ok (.ifCond .ne 7, 3) := by decide +kernel
theorem dX12_get_106 : decode cX12_get 106 = .ok (.iconst 0, 1) := by decide +kernel
theorem dX12_get_107 : decode cX12_get 107 = .ok (.goto 32, 3) := by decide +kernel
theorem dX12_get_110 : decode cX12_get 110 = .ok (.iconst (-1), 1) := by decide +kernel
theorem dX12_get_111 : decode cX12_get 111 = .ok (.goto 28, 3) := by decide +kernel
theorem dX12_get_114 : decode cX12_get 114 = .ok (.lload 5, 2) := by decide +kernel
theorem dX12_get_116 : decode cX12_get 116 = .ok (.ldc2_w 213, 3) := by decide +kernel
theorem dX12_get_119 : decode cX12_get 119 = .ok (.lcmp, 1) := by decide +kernel
theorem dX12_get_120 : decode cX12_get 120 = .ok (.ifCond .le 7, 3) := by decide +kernel
theorem dX12_get_123 : decode cX12_get 123 = .ok (.iconst (-1), 1) := by decide +kernel
theorem dX12_get_124 : decode cX12_get 124 = .ok (.goto 15, 3) := by decide +kernel
theorem dX12_get_127 : decode cX12_get 127 = .ok (.aload_n 0, 1) := by decide +kernel
theorem dX12_get_128 : decode cX12_get 128 = .ok (.aload_n 0, 1) := by decide +kernel
theorem dX12_get_129 : decode cX12_get 129 = .ok (.getfield 43, 3) := by decide +kernel
theorem dX12_get_132 : decode cX12_get 132 = .ok (.iload_n 3, 1) := by decide +kernel
theorem dX12_get_133 : decode cX12_get 133 = .ok (.iaload, 1) := by decide +kernel
theorem dX12_get_134 : decode cX12_get 134 = .ok (.lload 5, 2) := by decide +kernel
theorem dX12_get_136 : decode cX12_get 136 = .ok (.invokevirtual 196, 3) := by decide +kernel
theorem dX12_get_139 : decode cX12_get 139 = .ok (.istore 7, 2) := by decide +kernel
theorem dX12_get_141 : decode cX12_get 141 = .ok (.iload 7, 2) := by decide +kernel
theorem dX12_get_143 : decode cX12_get 143 = .ok (.ifCond .lt 12, 3) := by decide +kernel
theorem dX12_get_146 : decode cX12_get 146 = .ok (.aload_n 0, 1) := by decide +kernel
theorem dX12_get_147 : decode cX12_get 147 = .ok (.iload_n 2, 1) := by decide +kernel
theorem dX12_get_148 : decode cX12_get 148 = .ok (.iload_n 3, 1) := by decide +kernel
theorem dX12_get_149 : decode cX12_get 149 = .ok (.iload 7, 2) := by decide +kernel
theorem dX12_get_151 : decode cX12_get 151 = .ok (.invokevirtual 331, 3) := by decide +kernel
theorem dX12_get_154 : decode cX12_get 154 = .ok (.return_, 1) := by decide +kernel
theorem dX12_get_155 : decode cX12_get 155 = .ok (.aload_n 0, 1) := by decide +kernel
theorem dX12_get_156 : decode cX12_get 156 = .ok (.getfield 107, 3) := by decide +kernel
theorem dX12_get_159 : decode cX12_get 159 = .ok (.iload_n 2, 1) := by decide +kernel
theorem dX12_get_160 : decode cX12_get 160 = .ok (.iload_n 3, 1) := by decide +kernel
theorem dX12_get_161 : decode cX12_get 161 = .ok (.ifCond .lt 14, 3) := by decide +kernel
theorem dX12_get_164 : decode cX12_get 164 = .ok (.iload 4, 2) := by decide +kernel
theorem dX12_get_166 : decode cX12_get 166 = .ok (.ifCond .eq 9, 3) := by decide +kernel
theorem dX12_get_169 : decode cX12_get 169 = .ok (.sipush 129, 3) := by decide +kernel
theorem dX12_get_172 : decode cX12_get 172 = .ok (.goto 6, 3) := by decide +kernel
theorem dX12_get_175 : decode cX12_get 175 = .ok (.sipush 128, 3) := by decide +kernel
theorem dX12_get_178 : decode cX12_get 178 = .ok (.iastore, 1) := by decide +kernel
theorem dX12_get_179 : decode cX12_get 179 = .ok (.return_, 1) := by decide +kernel
theorem dX12_next_0 : decode cX12_next 0 = .ok (.iconst (-1), 1) := by decide +kernel
theorem dX12_next_1 : decode cX12_next 1 = .ok (.istore_n 3, 1) := by decide +kernel
theorem dX12_next_2 : decode cX12_next 2 = .ok (.iconst 0, 1) := by decide +kernel
theorem dX12_next_3 : decode cX12_next 3 = .ok (.istore 4, 2) := by decide +kernel
theorem dX12_next_5 : decode cX12_next 5 = .ok (.aload_n 0, 1) := by decide +kernel
theorem dX12_next_6 : decode cX12_next 6 = .ok (.getfield 128, 3) := by decide +kernel
theorem dX12_next_9 : decode cX12_next 9 = .ok (.astore 5, 2) := by decide +kernel
theorem dX12_next_11 : decode cX12_next 11 = .ok (.iconst 0, 1) := by decide +kernel
theorem dX12_next_12 : decode cX12_next 12 = .ok (.istore 6, 2) := by decide +kernel
theorem dX12_next_14 : decode cX12_next 14 = .ok (.iload 6, 2) := by decide +kernel
theorem dX12_next_16 : decode cX12_next 16 = .ok (.aload_n 0, 1) := by decide +kernel
theorem dX12_next_17 : decode cX12_next 17 = .ok (.getfield 160, 3) := by decide +kernel
theorem dX12_next_20 : decode cX12_next 20 = .ok (.if_icmp .ge 185, 3) := by decide +kernel
theorem dX12_next_23 : decode cX12_next 23 = .ok (.iconst 0, 1) := by decide +kernel
theorem dX12_next_24 : decode cX12_next 24 = .ok (.istore 7, 2) := by decide +kernel
theorem dX12_next_26 : decode cX12_next 26 = .ok (.iload 7, 2) := by decide +kernel
theorem dX12_next_28 : decode cX12_next 28 = .ok (.bipush 16, 2) := by decide +kernel
theorem dX12_next_30 : decode cX12_next 30 = .ok (.if_icmp .ge 169, 3) := by decide +kernel
theorem dX12_next_33 : decode cX12_next 33 = .ok (.aload_n 0, 1) := by decide +kernel
theorem dX12_next_34 : decode cX12_next 34 = .ok (.getfield 34, 3) := by decide +kernel
theorem dX12_next_37 : decode cX12_next 37 = .ok (.iload 6, 2) := by decide +kernel
theorem dX12_next_39 : decode cX12_next 39 = .ok (.iaload, 1) := by decide +kernel
theorem dX12_next_40 : decode cX12_next 40 = .ok (.ifCond .le 159, 3) := by decide +kernel
theorem dX12_next_43 : decode cX12_next 43 = .ok (.aload_n 0, 1) := by decide +kernel
theorem dX12_next_44 : decode cX12_next 44 = .ok (.iload 6, 2) := by decide +kernel
theorem dX12_next_46 : decode cX12_next 46 = .ok (.iload 7, 2) := by decide +kernel
theorem dX12_next_48 : decode cX12_next 48 = .ok (.invokevirtual 335, 3) := by decide +kernel
theorem dX12_next_51 : decode cX12_next 51 = .ok (.ifCond .ne 6, 3) := by decide +kernel
theorem dX12_next_54 : decode cX12_next 54 = .ok (.goto 139, 3) := by decide +kernel
theorem dX12_next_57 : decode cX12_next 57 = .ok (.aload_n 0, 1) := by decide +kernel
theorem dX12_next_58 : decode cX12_next 58 = .ok (.iload 6, 2) := by decide +kernel
theorem dX12_next_60 : decode cX12_next 60 = .ok (.iload 7, 2) := by decide +kernel
theorem dX12_next_62 : decode cX12_next 62 = .ok (.invokevirtual 339, 3) := by decide +kernel
theorem dX12_next_65 : decode cX12_next 65 = .ok (.aload_n 0, 1) := by decide +kernel
theorem dX12_next_66 : decode cX12_next 66 = .ok (.getfield 125, 3) := by decide +kernel
theorem dX12_next_69 : decode cX12_next 69 = .ok (.iconst 0, 1) := by decide +kernel
theorem dX12_next_70 : decode cX12_next 70 = .ok (.aload_n 0, 1) := by decide +kernel
theorem dX12_next_71 : decode cX12_next 71 = .ok (.getfield 313, 3) := by decide +kernel
theorem dX12_next_74 : decode cX12_next 74 = .ok (.aload_n 0, 1) := by decide +kernel
theorem dX12_next_75 : decode cX12_next 75 = .ok (.getfield 101, 3) := by decide +kernel
theorem dX12_next_78 : decode cX12_next 78 = .ok (.bipush 16, 2) := by decide +kernel
theorem dX12_next_80 : decode cX12_next 80 = .ok (.iload_n 1, 1) := by decide +kernel
theorem dX12_next_81 : decode cX12_next 81 = .ok (.imul, 1) := by decide +kernel
theorem dX12_next_82 : decode cX12_next 82 = .ok (.aload_n 0, 1) := by decide +kernel
theorem dX12_next_83 : decode cX12_next 83 = .ok (.getfield 104, 3) := by decide +kernel
theorem dX12_next_86 : decode cX12_next 86 = .ok (.iload_n 1, 1) := by decide +kernel
theorem dX12_next_87 : decode cX12_next 87 = .ok (.iaload, 1) := by decide +kernel
theorem dX12_next_88 : decode cX12_next 88 = .ok (.invokestatic 342, 3) := by decide +kernel
theorem dX12_next_91 : decode cX12_next 91 = .ok (.ifCond .le 7, 3) := by decide +kernel
theorem dX12_next_94 : decode cX12_next 94 = .ok (.iconst 1, 1) := by decide +kernel
theorem dX12_next_95 : decode cX12_next 95 = .ok (.goto 4, 3) := by decide +kernel
theorem dX12_next_98 : decode cX12_next 98 = .ok (.iconst 0, 1) := by decide +kernel
theorem dX12_next_99 : decode cX12_next 99 = .ok (.istore 8, 2) := by decide +kernel
theorem dX12_next_101 : decode cX12_next 101 = .ok (.iload 8, 2) := by decide +kernel
theorem dX12_next_103 : decode cX12_next 103 = .ok (.ifCond .eq 90, 3) := by decide +kernel
theorem dX12_next_106 : decode cX12_next 106 = .ok (.iload_n 3, 1) := by decide +kernel
theorem dX12_next_107 : decode cX12_next 107 = .ok (.ifCond .lt 25, 3) := by decide +kernel
theorem dX12_next_110 : decode cX12_next 110 = .ok (.aload_n 0, 1) := by decide +kernel
theorem dX12_next_111 : decode cX12_next 111 = .ok (.getfield 125, 3) := by decide +kernel
theorem dX12_next_114 : decode cX12_next 114 = .ok (.iconst 0, 1) := by decide +kernel
theorem dX12_next_115 : decode cX12_next 115 = .ok (.aload_n 0, 1) := by decide +kernel
theorem dX12_next_116 : decode cX12_next 116 = .ok (.getfield 313, 3) := by decide +kernel
theorem dX12_next_119 : decode cX12_next 119 = .ok (.aload 5, 2) := by decide +kernel
theorem dX12_next_121 : decode cX12_next 121 = .ok (.iconst 0, 1) := by decide +kernel
theorem dX12_next_122 : decode cX12_next 122 = .ok (.aload_n 0, 1) := by decide +kernel
theorem dX12_next_123 : decode cX12_next 123 = .ok (.getfield 346, 3) := by decide +kernel
theorem dX12_next_126 : decode cX12_next 126 = .ok (.invokestatic 342, 3) := by decide +kernel
theorem dX12_next_129 : decode cX12_next 129 = .ok (.ifCond .ge 64, 3) := by decide +kernel
theorem dX12_next_132 : decode cX12_next 132 = .ok (.aload_n 0, 1) := by decide +kernel
theorem dX12_next_133 : decode cX12_next 133 = .ok (.aload_n 0, 1) := by decide +kernel
theorem dX12_next_134 : decode cX12_next 134 = .ok (.getfield 125, 3) := by decide +kernel
theorem dX12_next_137 : decode cX12_next 137 = .ok (.iconst 0, 1) := by decide +kernel
theorem dX12_next_138 : decode cX12_next 138 = .ok (.aload_n 0, 1) := by decide +kernel
theorem dX12_next_139 : decode cX12_next 139 = .ok (.getfield 313, 3) := by decide +kernel
theorem dX12_next_142 : decode cX12_next 142 = .ok (.invokevirtual 327, 3) := by decide +kernel
theorem dX12_next_145 : decode cX12_next 145 = .ok (.ifCond .eq 48, 3) := by decide +kernel
theorem dX12_next_148 : decode cX12_next 148 = .ok (.iload 6, 2) := by decide +kernel
theorem dX12_next_150 : decode cX12_next 150 = .ok (.istore_n 3, 1) := by decide +kernel
theorem dX12_next_151 : decode cX12_next 151 = .ok (.iload 7, 2) := by decide +kernel
theorem dX12_next_153 : decode cX12_next 153 = .ok (.istore 4, 2) := by decide +kernel
theorem dX12_next_155 : decode cX12_next 155 = .ok (.aload_n 0, 1) := by decide +kernel
theorem dX12_next_156 : decode cX12_next 156 = .ok (.aload_n 0, 1) := by decide +kernel
theorem dX12_next_157 : decode cX12_next 157 = .ok (.getfield 313, 3) := by decide +kernel
theorem dX12_next_160 : decode cX12_next 160 = .ok (.putfield 346, 3) := by decide +kernel
theorem dX12_next_163 : decode cX12_next 163 = .ok (.iconst 0, 1) := by decide +kernel
theorem dX12_next_164 : decode cX12_next 164 = .ok (.istore 9, 2) := by decide +kernel
theorem dX12_next_166 : decode cX12_next 166 = .ok (.iload 9, 2) := by decide +kernel
theorem dX12_next_168 : decode cX12_next 168 = .ok (.aload_n 0, 1) := by decide +kernel
theorem dX12_next_169 : decode cX12_next 169 = .ok (.getfield 313, 3) := by decide +kernel
theorem dX12_next_172 : decode cX12_next 172 = .ok (.if_icmp .ge 21, 3) := by decide +kernel
theorem dX12_next_175 : decode cX12_next 175 = .ok (.aload 5, 2) := by decide +kernel
theorem dX12_next_177 : decode cX12_next 177 = .ok (.iload 9, 2) := by decide +kernel
theorem dX12_next_179 : decode cX12_next 179 = .ok (.aload_n 0, 1) := by decide +kernel
theorem dX12_next_180 : decode cX12_next 180 = .ok (.getfield 125, 3) := by decide +kernel
theorem dX12_next_183 : decode cX12_next 183 = .ok (.iload 9, 2) := by decide +kernel
theorem dX12_next_185 : decode cX12_next 185 = .ok (.laload, 1) := by decide +kernel
theorem dX12_next_186 : decode cX12_next 186 = .ok (.lastore, 1) := by decide +kernel
theorem dX12_next_187 : decode cX12_next 187 = .ok (.iinc 9 1, 3) := by decide +kernel
theorem dX12_next_190 : decode cX12_next 190 = .ok (.goto (-24), 3) := by decide +kernel
theorem dX12_next_193 : decode cX12_next 193 = .ok (.iinc 7 1, 3) := by decide +kernel
theorem dX12_next_196 : decode cX12_next 196 = .ok (.goto (-170), 3) := by decide +kernel
theorem dX12_next_199 : decode cX12_next 199 = .ok (.iinc 6 1, 3) := by decide +kernel
theorem dX12_next_202 : decode cX12_next 202 = .ok (.goto (-188), 3) := by decide +kernel
theorem dX12_next_205 : decode cX12_next 205 = .ok (.iload_n 3, 1) := by decide +kernel
theorem dX12_next_206 : decode cX12_next 206 = .ok (.ifCond .ge 19, 3) := by decide +kernel
theorem dX12_next_209 : decode cX12_next 209 = .ok (.aload_n 0, 1) := by decide +kernel
theorem dX12_next_210 : decode cX12_next 210 = .ok (.iload_n 1, 1) := by decide +kernel
theorem dX12_next_211 : decode cX12_next 211 = .ok (.iload_n 2, 1) := by decide +kernel
theorem dX12_next_212 : decode cX12_next 212 = .ok (.invokevirtual 320, 3) := by decide +kernel
theorem dX12_next_215 : decode cX12_next 215 = .ok (.aload_n 0, 1) := by decide +kernel
theorem dX12_next_216 : decode cX12_next 216 = .ok (.getfield 107, 3) := by decide +kernel
theorem dX12_next_219 : decode cX12_next 219 = .ok (.iload_n 2, 1) := by decide +kernel
theorem dX12_next_220 : decode cX12_next 220 = .ok (.sipush 130, 3) := by decide +kernel
theorem dX12_next_223 : decode cX12_next 223 = .ok (.iastore, 1) := by decide +kernel
theorem dX12_next_224 : decode cX12_next 224 = .ok (.return_, 1) := by decide +kernel
theorem dX12_next_225 : decode cX12_next 225 = .ok (.iconst 0, 1) := by decide +kernel
theorem dX12_next_226 : decode cX12_next 226 = .ok (.istore 6, 2) := by decide +kernel
theorem dX12_next_228 : decode cX12_next 228 = .ok (.iload 6, 2) := by decide +kernel
theorem dX12_next_230 : decode cX12_next 230 = .ok (.aload_n 0, 1) := by decide +kernel
theorem dX12_next_231 : decode cX12_next 231 = .ok (.getfield 346, 3) := by decide +kernel
theorem dX12_next_234 : decode cX12_next 234 = .ok (.if_icmp .ge 26, 3) := by decide +kernel
theorem dX12_next_237 : decode cX12_next 237 = .ok (.aload_n 0, 1) := by decide +kernel
theorem dX12_next_238 : decode cX12_next 238 = .ok (.getfield 101, 3) := by decide +kernel
theorem dX12_next_241 : decode cX12_next 241 = .ok (.bipush 16, 2) := by decide +kernel
theorem dX12_next_243 : decode cX12_next 243 = .ok (.iload_n 2, 1) := by decide +kernel
theorem dX12_next_244 : decode cX12_next 244 = .ok (.imul, 1) := by decide +kernel
theorem dX12_next_245 : decode cX12_next 245 = .ok (.iload 6, 2) := by decide +kernel
theorem dX12_next_247 : decode cX12_next 247 = .ok (.iadd, 1) := by decide +kernel
theorem dX12_next_248 : decode cX12_next 248 = .ok (.aload 5, 2) := by decide +kernel
theorem dX12_next_250 : decode cX12_next 250 = .ok (.iload 6, 2) := by decide +kernel
theorem dX12_next_252 : decode cX12_next 252 = .ok (.laload, 1) := by decide +kernel
theorem dX12_next_253 : decode cX12_next 253 = .ok (.lastore, 1) := by decide +kernel
theorem dX12_next_254 : decode cX12_next 254 = .ok (.iinc 6 1, 3) := by decide +kernel
theorem dX12_next_257 : decode cX12_next 257 = .ok (.goto (-29), 3) := by decide +kernel
theorem dX12_next_260 : decode cX12_next 260 = .ok (.aload_n 0, 1) := by decide +kernel
theorem dX12_next_261 : decode cX12_next 261 = .ok (.getfield 104, 3) := by decide +kernel
theorem dX12_next_264 : decode cX12_next 264 = .ok (.iload_n 2, 1) := by decide +kernel
theorem dX12_next_265 : decode cX12_next 265 = .ok (.aload_n 0, 1) := by decide +kernel
theorem dX12_next_266 : decode cX12_next 266 = .ok (.getfield 346, 3) := by decide +kernel
theorem dX12_next_269 : decode cX12_next 269 = .ok (.iastore, 1) := by decide +kernel
theorem dX12_next_270 : decode cX12_next 270 = .ok (.aload_n 0, 1) := by decide +kernel
theorem dX12_next_271 : decode cX12_next 271 = .ok (.iload_n 2, 1) := by decide +kernel
theorem dX12_next_272 : decode cX12_next 272 = .ok (.iload_n 3, 1) := by decide +kernel
theorem dX12_next_273 : decode cX12_next 273 = .ok (.iload 4, 2) := by decide +kernel
theorem dX12_next_275 : decode cX12_next 275 = .ok (.invokevirtual 331, 3) := by decide +kernel
theorem dX12_next_278 : decode cX12_next 278 = .ok (.return_, 1) := by decide +kernel
theorem dX12_around_0 : decode cX12_around 0 = .ok (.iload_n 0, 1) := by decide +kernel
theorem dX12_around_1 : decode cX12_around 1 = .ok (.sipush 128, 3) := by decide +kernel
theorem dX12_around_4 : decode cX12_around 4 = .ok (.if_icmp .ge 9, 3) := by decide +kernel
theorem dX12_around_7 : decode cX12_around 7 = .ok (.iload_n 0, 1) := by decide +kernel
theorem dX12_around_8 : decode cX12_around 8 = .ok (.iconst 2, 1) := by decide +kernel
theorem dX12_around_9 : decode cX12_around 9 = .ok (.iadd, 1) := by decide +kernel
theorem dX12_around_10 : decode cX12_around 10 = .ok (.goto 19, 3) := by decide +kernel
theorem dX12_around_13 : decode cX12_around 13 = .ok (.iload_n 0, 1) := by decide +kernel
theorem dX12_around_14 : decode cX12_around 14 = .ok (.sipush 256, 3) := by decide +kernel
theorem dX12_around_17 : decode cX12_around 17 = .ok (.if_icmp .ge 9, 3) := by decide +kernel
theorem dX12_around_20 : decode cX12_around 20 = .ok (.iload_n 0, 1) := by decide +kernel
theorem dX12_around_21 : decode cX12_around 21 = .ok (.iconst 3, 1) := by decide +kernel
theorem dX12_around_22 : decode cX12_around 22 = .ok (.iadd, 1) := by decide +kernel
theorem dX12_around_23 : decode cX12_around 23 = .ok (.goto 6, 3) := by decide +kernel
theorem dX12_around_26 : decode cX12_around 26 = .ok (.iload_n 0, 1) := by decide +kernel
theorem dX12_around_27 : decode cX12_around 27 = .ok (.iconst 4, 1) := by decide +kernel
theorem dX12_around_28 : decode cX12_around 28 = .ok (.iadd, 1) := by decide +kernel
theorem dX12_around_29 : decode cX12_around 29 = .ok (.ireturn, 1) := by decide +kernel
theorem dX12_numberSize_0 : decode cX12_numberSize 0 = .ok (.iload_n 2, 1) := by decide +kernel
theorem dX12_numberSize_1 : decode cX12_numberSize 1 = .ok (.ifCond .eq 12, 3) := by decide +kernel
theorem dX12_numberSize_4 : decode cX12_numberSize 4 = .ok (.lload_n 0, 1) := by decide +kernel
theorem dX12_numberSize_5 : decode cX12_numberSize 5 = .ok (.lconst 0, 1) := by decide +kernel
theorem dX12_numberSize_6 : decode cX12_numberSize 6 = .ok (.lcmp, 1) := by decide +kernel
theorem dX12_numberSize_7 : decode cX12_numberSize 7 = .ok (.ifCond .ge 6, 3) := by decide +kernel
theorem dX12_numberSize_10 : decode cX12_numberSize 10 = .ok (.bipush 9, 2) := by decide +kernel
theorem dX12_numberSize_12 : decode cX12_numberSize 12 = .ok (.ireturn, 1) := by decide +kernel
theorem dX12_numberSize_13 : decode cX12_numberSize 13 = .ok (.iconst 1, 1) := by decide +kernel
theorem dX12_numberSize_14 : decode cX12_numberSize 14 = .ok (.istore_n 3, 1) := by decide +kernel
theorem dX12_numberSize_15 : decode cX12_numberSize 15 = .ok (.iload_n 3, 1) := by decide +kernel
theorem dX12_numberSize_16 : decode cX12_numberSize 16 = .ok (.bipush 8, 2) := by decide +kernel
theorem dX12_numberSize_18 : decode cX12_numberSize 18 = .ok (.if_icmp .ge 37, 3) := by decide +kernel
theorem dX12_numberSize_21 : decode cX12_numberSize 21 = .ok (.lload_n 0, 1) := by decide +kernel
theorem dX12_numberSize_22 : decode cX12_numberSize 22 = .ok (.bipush 8, 2) := by decide +kernel
theorem dX12_numberSize_24 : decode cX12_numberSize 24 = .ok (.iload_n 3, 1) := by decide +kernel
theorem dX12_numberSize_25 : decode cX12_numberSize 25 = .ok (.imul, 1) := by decide +kernel
theorem dX12_numberSize_26 : decode cX12_numberSize 26 = .ok (.iconst 1, 1) := by decide +kernel
theorem dX12_numberSize_27 : decode cX12_numberSize 27 = .ok (.isub, 1) := by decide +kernel
theorem dX12_numberSize_28 : decode cX12_numberSize 28 = .ok (.lshr, 1) := by decide +kernel
theorem dX12_numberSize_29 : decode cX12_numberSize 29 = .ok (.lconst 0, 1) := by decide +kernel
theorem dX12_numberSize_30 : decode cX12_numberSize 30 = .ok (.lcmp, 1) := by decide +kernel
theorem dX12_numberSize_31 : decode cX12_numberSize 31 = .ok (.ifCond .eq 24, 3) := by decide +kernel
theorem dX12_numberSize_34 : decode cX12_numberSize 34 = .ok (.lload_n 0, 1) := by decide +kernel
theorem dX12_numberSize_35 : decode cX12_numberSize 35 = .ok (.bipush 8, 2) := by decide +kernel
theorem dX12_numberSize_37 : decode cX12_numberSize 37 = .ok (.iload_n 3, 1) := by decide +kernel
theorem dX12_numberSize_38 : decode cX12_numberSize 38 = .ok (.imul, 1) := by decide +kernel
theorem dX12_numberSize_39 : decode cX12_numberSize 39 = .ok (.iconst 1, 1) := by decide +kernel
theorem dX12_numberSize_40 : decode cX12_numberSize 40 = .ok (.isub, 1) := by decide +kernel
theorem dX12_numberSize_41 : decode cX12_numberSize 41 = .ok (.lshr, 1) := by decide +kernel
theorem dX12_numberSize_42 : decode cX12_numberSize 42 = .ok (.ldc2_w 149, 3) := by decide +kernel
theorem dX12_numberSize_45 : decode cX12_numberSize 45 = .ok (.lcmp, 1) := by decide +kernel
theorem dX12_numberSize_46 : decode cX12_numberSize 46 = .ok (.ifCond .eq 9, 3) := by decide +kernel
theorem dX12_numberSize_49 : decode cX12_numberSize 49 = .ok (.iinc 3 1, 3) := by decide +kernel
theorem dX12_numberSize_52 : decode cX12_numberSize 52 = .ok (.goto (-37), 3) := by decide +kernel
theorem dX12_numberSize_55 : decode cX12_numberSize 55 = .ok (.iload_n 3, 1) := by decide +kernel
theorem dX12_numberSize_56 : decode cX12_numberSize 56 = .ok (.ireturn, 1) := by decide +kernel
theorem dX12_partSize_0 : decode cX12_partSize 0 = .ok (.iconst 1, 1) := by decide +kernel
theorem dX12_partSize_1 : decode cX12_partSize 1 = .ok (.istore_n 2, 1) := by decide +kernel
theorem dX12_partSize_2 : decode cX12_partSize 2 = .ok (.lload_n 0, 1) := by decide +kernel
theorem dX12_partSize_3 : decode cX12_partSize 3 = .ok (.bipush 7, 2) := by decide +kernel
theorem dX12_partSize_5 : decode cX12_partSize 5 = .ok (.iload_n 2, 1) := by decide +kernel
theorem dX12_partSize_6 : decode cX12_partSize 6 = .ok (.imul, 1) := by decide +kernel
theorem dX12_partSize_7 : decode cX12_partSize 7 = .ok (.lshr, 1) := by decide +kernel
theorem dX12_partSize_8 : decode cX12_partSize 8 = .ok (.lconst 0, 1) := by decide +kernel
theorem dX12_partSize_9 : decode cX12_partSize 9 = .ok (.lcmp, 1) := by decide +kernel
theorem dX12_partSize_10 : decode cX12_partSize 10 = .ok (.ifCond .le 9, 3) := by decide +kernel
theorem dX12_partSize_13 : decode cX12_partSize 13 = .ok (.iinc 2 1, 3) := by decide +kernel
theorem dX12_partSize_16 : decode cX12_partSize 16 = .ok (.goto (-14), 3) := by decide +kernel
theorem dX12_partSize_19 : decode cX12_partSize 19 = .ok (.iload_n 2, 1) := by decide +kernel
theorem dX12_partSize_20 : decode cX12_partSize 20 = .ok (.ireturn, 1) := by decide +kernel
theorem dX12_nameOctets_0 : decode cX12_nameOctets 0 = .ok (.iconst 1, 1) := by decide +kernel
theorem dX12_nameOctets_1 : decode cX12_nameOctets 1 = .ok (.istore_n 3, 1) := by decide +kernel
theorem dX12_nameOctets_2 : decode cX12_nameOctets 2 = .ok (.iconst 2, 1) := by decide +kernel
theorem dX12_nameOctets_3 : decode cX12_nameOctets 3 = .ok (.istore 4, 2) := by decide +kernel
theorem dX12_nameOctets_5 : decode cX12_nameOctets 5 = .ok (.iload 4, 2) := by decide +kernel
theorem dX12_nameOctets_7 : decode cX12_nameOctets 7 = .ok (.iload_n 2, 1) := by decide +kernel
